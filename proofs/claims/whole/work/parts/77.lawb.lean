set_option maxHeartbeats 1600000 in
set_option maxRecDepth 100000 in
theorem K_build {p : Program} {l : Launch} {e : Env} {s : State} {m : MethodId} {below : List Frame} {meth : Method} {c : Code} {D : va_G} {G : Nat → ClassId} {b N o L c9 : Nat} {xs : Nat → Int32} {Q : State → Prop} {H : Heap} {locs : List Loc} {cells slots : Nat} {ls : Array Slot} (C0 : LC p l s m b c D G N o L xs) (hcs : cells + 4 ≤ 643901 ∧ slots + 24 ≤ 7164402) (hS : va_S (fun q => s.heap.size ≤ q) s.heap H locs) (hI : LInv D G N o c9 H) (hc9 : c9 < 512) (i : Nat) (hi : i + 4 ≤ L) (hl : lv_has ls 9 [(0, .ref b), (1, .ref N), (2, .ref (N + 104)), (3, .ref o), (4, .int (nI i))]) (kk : ∀ (H1 : Heap) (locs1 : List Loc) (ls1 : Array Slot), va_S (fun q => s.heap.size ≤ q) s.heap H1 locs1 → LInv D G N o (c9 + 1) H1 → lv_has ls1 9 [(0, .ref b), (1, .ref N), (2, .ref (N + 104)), (3, .ref o), (4, .int (nI i))] → W p l e room_1 s m #[Value.ref b] below meth c H1 locs1 (cells + 4) (slots + 24) Q (F0 m 1574 ls1 [])) : W p l e room_1 s m #[Value.ref b] below meth c H locs cells slots Q (F0 m 164 ls []) := by
  obtain ⟨hx, hb, hml, hown, hts, hK, hN, hE, hZ, hC, hl9, hN0, ho, hX, hbl, hL⟩ := C0
  obtain ⟨R, RS, N9, S, F, sv, n, len, kp, th, oo, m9, hDW, hMM, hLo, hg, hbu, hn6, hl6, hsv, hks, hm9⟩ := hI
  have hF : CallFix p m c cL_law 9 s #[Value.ref b] wsL_law RL := ⟨hx, hb, hml, hown, hts⟩
  have hα : inj 115 (al N o) := al_inj ho
  have hμ : inj 10 (mu N) := mu_inj N
  refine lv_aload_n hx hb dL_law_164 rfl (lv_at hl 1 rfl) ?_
  refine lv_aload_n hx hb dL_law_165 rfl (lv_at hl 0 rfl) ?_
  refine lv_iload hx hb dL_law_166 (lv_at hl 4 rfl) ?_
  refine lv_iconst (v := 1) hx hb dL_law_168 (by decide) ?_
  refine lv_iadd hx hb dL_law_169 ?_
  rw [nI_1 i]
  refine va_sld hx hb hX hbl (Nat.not_le.mpr hbl) hS (vp_in_nI (n := (i + 1)) (N := L) (by omega) (by omega)) dL_law_170 ?_
  rw [nI_clamp (n := (i + 1)) (by omega)]
  refine lv_aload_n hx hb dL_law_171 rfl (lv_at hl 0 rfl) ?_
  refine lv_iload hx hb dL_law_172 (lv_at hl 4 rfl) ?_
  refine lv_iconst (v := 2) hx hb dL_law_174 (by decide) ?_
  refine lv_iadd hx hb dL_law_175 ?_
  rw [nI_2 i]
  refine va_sld hx hb hX hbl (Nat.not_le.mpr hbl) hS (vp_in_nI (n := (i + 2)) (N := L) (by omega) (by omega)) dL_law_176 ?_
  rw [nI_clamp (n := (i + 2)) (by omega)]
  refine lv_aload_n hx hb dL_law_177 rfl (lv_at hl 0 rfl) ?_
  refine lv_iload hx hb dL_law_178 (lv_at hl 4 rfl) ?_
  refine lv_iconst (v := 3) hx hb dL_law_180 (by decide) ?_
  refine lv_iadd hx hb dL_law_181 ?_
  rw [nI_3 i]
  refine va_sld hx hb hX hbl (Nat.not_le.mpr hbl) hS (vp_in_nI (n := (i + 3)) (N := L) (by omega) (by omega)) dL_law_182 ?_
  rw [nI_clamp (n := (i + 3)) (by omega)]
  refine lv_aload_n hx hb dL_law_183 rfl (lv_at hl 3 rfl) ?_
  refine dpl_Si hF hK hN hE hZ hC (c_L_build l hl9 D G (al N o) R RS kp sv n F len oo (xs (i + 1)) (xs (i + 2)) (xs (i + 3)) _ hα hDW hLo hg hn6 hl6) (vx_cwSW 5 hts gL_law_L_build rfl rfl rfl (by decide +kernel) ⟨Nat.le_of_ble_eq_true rfl, Nat.le_of_ble_eq_true rfl⟩) hS (fun q hq => al_ge hN0 ho hq) [] rfl rfl hl.1 (Nat.le_of_ble_eq_true rfl) dL_law_184 ⟨by show cells + 4 ≤ 643901; omega, by show slots + 24 ≤ 7164402; omega⟩ (fun r1 H1 locs hp hz1 hk1 hS => ?_)
  have hMM := hMM.cl ho (fun q hq => hq) hk1
  obtain ⟨rfl, hp1⟩ := hp
  rcases hp1 with ⟨h0, hDW, o2, ho2, hLo⟩ | ⟨h0, hDW, hLo⟩
  · refine lv_istore (lv' := [(5, .int (cBuild R (xs (i + 1)) (xs (i + 2)) (xs (i + 3)))), (0, .ref b), (1, .ref N), (2, .ref (N + 104)), (3, .ref o), (4, .int (nI i))]) hx hb dL_law_187 hl (by decide) rfl (fun ls hl => ?_)
    refine lv_aload_n hx hb dL_law_189 rfl (lv_at hl 3 rfl) ?_
    refine lv_aload_n hx hb dL_law_190 rfl (lv_at hl 1 rfl) ?_
    refine lv_iload hx hb dL_law_191 (lv_at hl 5 rfl) ?_
    refine lv_iconst (v := 1) hx hb dL_law_193 (by decide) ?_
    refine lv_iadd hx hb dL_law_194 ?_
    rw [nI_1 i]
    refine va_sld hx hb hX hbl (Nat.not_le.mpr hbl) hS (vp_in_nI (n := (i + 1)) (N := L) (by omega) (by omega)) dL_law_195 ?_
    rw [nI_clamp (n := (i + 1)) (by omega)]
    refine lv_aload_n hx hb dL_law_196 rfl (lv_at hl 1 rfl) ?_
    refine lv_iload hx hb dL_law_197 (lv_at hl 5 rfl) ?_
    refine lv_iconst (v := 2) hx hb dL_law_199 (by decide) ?_
    refine lv_iadd hx hb dL_law_200 ?_
    rw [nI_2 i]
    refine va_sld hx hb hX hbl (Nat.not_le.mpr hbl) hS (vp_in_nI (n := (i + 2)) (N := L) (by omega) (by omega)) dL_law_201 ?_
    rw [nI_clamp (n := (i + 2)) (by omega)]
    refine lv_aload_n hx hb dL_law_202 rfl (lv_at hl 1 rfl) ?_
    refine lv_iload hx hb dL_law_203 (lv_at hl 5 rfl) ?_
    refine lv_iconst (v := 3) hx hb dL_law_205 (by decide) ?_
    refine lv_iadd hx hb dL_law_206 ?_
    rw [nI_3 i]
    refine va_sld hx hb hX hbl (Nat.not_le.mpr hbl) hS (vp_in_nI (n := (i + 3)) (N := L) (by omega) (by omega)) dL_law_207 ?_
    rw [nI_clamp (n := (i + 3)) (by omega)]
    obtain ⟨E, P, L1, L2, L3, la, sp, od, hs, hM⟩ := hMM
    refine dp_Vi hF hK hN (c_X6_build l D G (mu N) R S N9 E P F L1 L2 L3 (nI n) kp th la (nI len) sp od hs n (xs (i + 1)) (xs (i + 2)) (xs (i + 3)) _ hμ hM hg rfl hn6) (cwV 3 hts gL_law_X6_build rfl rfl rfl (by decide +kernel) ⟨Nat.le_of_ble_eq_true rfl, Nat.le_of_ble_eq_true rfl⟩) (dp_recv hK hM.1 rfl) hS (fun q hq => mu_ge hN0 hq) [] rfl rfl hl.1 (Nat.le_of_ble_eq_true rfl) dL_law_208 ⟨by show cells + 4 ≤ 643901; omega, by show slots + 24 ≤ 7164402; omega⟩ (fun r9 H1 locs hp hzH1 hkH1 hS => ?_)
    have hDW := hDW.md ho hkH1
    have hLo := hLo.kept (hkH1 _ hLo.lt (A6_al (k := 114) ho (by omega) (by omega)))
    obtain ⟨-, rfl, hMM⟩ := hp.resolve_right (fun q => q.1 h0)
    refine lv_istore (lv' := [(6, .int (R (8 + 10 * ix (xs (i + 1))))), (5, .int (cBuild R (xs (i + 1)) (xs (i + 2)) (xs (i + 3)))), (0, .ref b), (1, .ref N), (2, .ref (N + 104)), (3, .ref o), (4, .int (nI i))]) hx hb dL_law_211 hl (by decide) rfl (fun ls hl => ?_)
    refine lv_aload_n hx hb dL_law_213 rfl (lv_at hl 4 rfl) ?_
    obtain ⟨E, P, L1, L2, L3, la, sp, od, hs, hM⟩ := hMM
    refine dp_Vi hF hK hN (c_X6_thrown l D G (mu N) (upd (upd R (8 + 10 * ix (xs (i + 1))) (xs (i + 2))) (9 + 10 * ix (xs (i + 1))) (xs (i + 3))) (msv S R n) N9 E P F L1 L2 L3 (nI (svn n)) kp 0 la (nI len) sp od hs _ hμ hM) (cwV 0 hts gL_law_X6_thrown rfl rfl rfl (by decide +kernel) ⟨Nat.le_of_ble_eq_true rfl, Nat.le_of_ble_eq_true rfl⟩) (dp_recv hK hM.1 rfl) hS nA_i [] rfl rfl hl.1 (Nat.le_of_ble_eq_true rfl) dL_law_214 ⟨by show cells + 4 ≤ 643901; omega, by show slots + 24 ≤ 7164402; omega⟩ (fun rH2 H2 locs hp hzH2 hkH2 hS => ?_)
    obtain ⟨rfl, rfl⟩ := hp
    have hMM := MM.of hM
    refine lv_iload hx hb dL_law_217 (lv_at hl 1 rfl) ?_
    refine lv_icmp_eq (tgt := 224) hx hb dL_law_219 (by decide) (fun c1 => ?_) (fun c1 => absurd h0.symm c1)
    refine lv_iload hx hb dL_law_224 (lv_at hl 1 rfl) ?_
    refine lv_if_ne (tgt := 241) hx hb dL_law_226 (by decide) (fun c2 => absurd c2 (fun q => q h0)) (fun c2 => ?_)
    refine lv_aload_n hx hb dL_law_229 rfl (lv_at hl 5 rfl) ?_
    refine lv_iconst (v := 0) hx hb dL_law_230 (by decide) ?_
    refine dp_lald hx hb hK hLo 4 rfl 0 rfl (by decide) (by decide) dL_law_231 ?_
    rw [ho2]
    refine lv_iload hx hb dL_law_232 (lv_at hl 0 rfl) ?_
    refine lv_i2l hx hb dL_law_234 rfl ?_
    refine W.lcmp hx hb dL_law_235 ?_
    refine lv_if_eq (tgt := 241) hx hb dL_law_236 (by decide) (fun c3 => ?_) (fun c3 => absurd (lg_self _) c3)
    refine lv_goto (tgt := 1574) hx hb dL_law_241 (by decide) ?_
    refine W.widen (k := cells + 4) (n := slots + 24) (by omega) (by omega) ?_
    exact kk _ _ _ hS ⟨(upd (upd R (8 + 10 * ix (xs (i + 1))) (xs (i + 2))) (9 + 10 * ix (xs (i + 1))) (xs (i + 3))), RS, N9, (msv S R n), F, (svs sv n R), (svn n), len, kp, _, _, m9, hDW, hMM, hLo, (gb_build hg hbu h0).1, (gb_build hg hbu h0).2, (svn_le hn6), hl6, (hsv.save hn6 hg hbu), hks, (by omega)⟩ (lv_sub hl [2, 3, 4, 5, 6] rfl)
  · refine lv_istore (lv' := [(5, .int (cBuild R (xs (i + 1)) (xs (i + 2)) (xs (i + 3)))), (0, .ref b), (1, .ref N), (2, .ref (N + 104)), (3, .ref o), (4, .int (nI i))]) hx hb dL_law_187 hl (by decide) rfl (fun ls hl => ?_)
    refine lv_aload_n hx hb dL_law_189 rfl (lv_at hl 3 rfl) ?_
    refine lv_aload_n hx hb dL_law_190 rfl (lv_at hl 1 rfl) ?_
    refine lv_iload hx hb dL_law_191 (lv_at hl 5 rfl) ?_
    refine lv_iconst (v := 1) hx hb dL_law_193 (by decide) ?_
    refine lv_iadd hx hb dL_law_194 ?_
    rw [nI_1 i]
    refine va_sld hx hb hX hbl (Nat.not_le.mpr hbl) hS (vp_in_nI (n := (i + 1)) (N := L) (by omega) (by omega)) dL_law_195 ?_
    rw [nI_clamp (n := (i + 1)) (by omega)]
    refine lv_aload_n hx hb dL_law_196 rfl (lv_at hl 1 rfl) ?_
    refine lv_iload hx hb dL_law_197 (lv_at hl 5 rfl) ?_
    refine lv_iconst (v := 2) hx hb dL_law_199 (by decide) ?_
    refine lv_iadd hx hb dL_law_200 ?_
    rw [nI_2 i]
    refine va_sld hx hb hX hbl (Nat.not_le.mpr hbl) hS (vp_in_nI (n := (i + 2)) (N := L) (by omega) (by omega)) dL_law_201 ?_
    rw [nI_clamp (n := (i + 2)) (by omega)]
    refine lv_aload_n hx hb dL_law_202 rfl (lv_at hl 1 rfl) ?_
    refine lv_iload hx hb dL_law_203 (lv_at hl 5 rfl) ?_
    refine lv_iconst (v := 3) hx hb dL_law_205 (by decide) ?_
    refine lv_iadd hx hb dL_law_206 ?_
    rw [nI_3 i]
    refine va_sld hx hb hX hbl (Nat.not_le.mpr hbl) hS (vp_in_nI (n := (i + 3)) (N := L) (by omega) (by omega)) dL_law_207 ?_
    rw [nI_clamp (n := (i + 3)) (by omega)]
    obtain ⟨E, P, L1, L2, L3, la, sp, od, hs, hM⟩ := hMM
    refine dp_Vi hF hK hN (c_X6_build l D G (mu N) R S N9 E P F L1 L2 L3 (nI n) kp th la (nI len) sp od hs n (xs (i + 1)) (xs (i + 2)) (xs (i + 3)) _ hμ hM hg rfl hn6) (cwV 3 hts gL_law_X6_build rfl rfl rfl (by decide +kernel) ⟨Nat.le_of_ble_eq_true rfl, Nat.le_of_ble_eq_true rfl⟩) (dp_recv hK hM.1 rfl) hS (fun q hq => mu_ge hN0 hq) [] rfl rfl hl.1 (Nat.le_of_ble_eq_true rfl) dL_law_208 ⟨by show cells + 4 ≤ 643901; omega, by show slots + 24 ≤ 7164402; omega⟩ (fun r9 H3 locs hp hzH3 hkH3 hS => ?_)
    have hDW := hDW.md ho hkH3
    have hLo := hLo.kept (hkH3 _ hLo.lt (A6_al (k := 114) ho (by omega) (by omega)))
    obtain ⟨-, hMM⟩ := hp.resolve_left (fun q => h0 q.1)
    refine lv_istore (lv' := [(6, .int r9), (5, .int (cBuild R (xs (i + 1)) (xs (i + 2)) (xs (i + 3)))), (0, .ref b), (1, .ref N), (2, .ref (N + 104)), (3, .ref o), (4, .int (nI i))]) hx hb dL_law_211 hl (by decide) rfl (fun ls hl => ?_)
    refine lv_aload_n hx hb dL_law_213 rfl (lv_at hl 4 rfl) ?_
    obtain ⟨E, P, L1, L2, L3, la, sp, od, hs, hM⟩ := hMM
    refine dp_Vi hF hK hN (c_X6_thrown l D G (mu N) R S N9 E P F L1 L2 L3 (nI n) kp (cBuild R (xs (i + 1)) (xs (i + 2)) (xs (i + 3))) la (nI len) sp od hs _ hμ hM) (cwV 0 hts gL_law_X6_thrown rfl rfl rfl (by decide +kernel) ⟨Nat.le_of_ble_eq_true rfl, Nat.le_of_ble_eq_true rfl⟩) (dp_recv hK hM.1 rfl) hS nA_i [] rfl rfl hl.1 (Nat.le_of_ble_eq_true rfl) dL_law_214 ⟨by show cells + 4 ≤ 643901; omega, by show slots + 24 ≤ 7164402; omega⟩ (fun rH4 H4 locs hp hzH4 hkH4 hS => ?_)
    obtain ⟨rfl, rfl⟩ := hp
    have hMM := MM.of hM
    refine lv_iload hx hb dL_law_217 (lv_at hl 1 rfl) ?_
    refine lv_icmp_eq (tgt := 224) hx hb dL_law_219 (by decide) (fun c4 => ?_) (fun c4 => absurd rfl c4)
    refine lv_iload hx hb dL_law_224 (lv_at hl 1 rfl) ?_
    refine lv_if_ne (tgt := 241) hx hb dL_law_226 (by decide) (fun c5 => ?_) (fun c5 => absurd c5 h0)
    refine lv_goto (tgt := 1574) hx hb dL_law_241 (by decide) ?_
    refine W.widen (k := cells + 4) (n := slots + 24) (by omega) (by omega) ?_
    exact kk _ _ _ hS ⟨R, RS, N9, S, F, sv, n, len, kp, _, _, m9, hDW, hMM, hLo, hg, hbu, hn6, hl6, hsv, hks, (by omega)⟩ (lv_sub hl [2, 3, 4, 5, 6] rfl)

set_option maxHeartbeats 1600000 in
set_option maxRecDepth 100000 in
theorem K_speed {p : Program} {l : Launch} {e : Env} {s : State} {m : MethodId} {below : List Frame} {meth : Method} {c : Code} {D : va_G} {G : Nat → ClassId} {b N o L c9 : Nat} {xs : Nat → Int32} {Q : State → Prop} {H : Heap} {locs : List Loc} {cells slots : Nat} {ls : Array Slot} (C0 : LC p l s m b c D G N o L xs) (hcs : cells + 4 ≤ 643901 ∧ slots + 24 ≤ 7164402) (hS : va_S (fun q => s.heap.size ≤ q) s.heap H locs) (hI : LInv D G N o c9 H) (hc9 : c9 < 512) (i : Nat) (hi : i + 4 ≤ L) (hl : lv_has ls 9 [(0, .ref b), (1, .ref N), (2, .ref (N + 104)), (3, .ref o), (4, .int (nI i))]) (kk : ∀ (H1 : Heap) (locs1 : List Loc) (ls1 : Array Slot), va_S (fun q => s.heap.size ≤ q) s.heap H1 locs1 → LInv D G N o (c9 + 1) H1 → lv_has ls1 9 [(0, .ref b), (1, .ref N), (2, .ref (N + 104)), (3, .ref o), (4, .int (nI i))] → W p l e room_1 s m #[Value.ref b] below meth c H1 locs1 (cells + 4) (slots + 24) Q (F0 m 1574 ls1 [])) : W p l e room_1 s m #[Value.ref b] below meth c H locs cells slots Q (F0 m 244 ls []) := by
  obtain ⟨hx, hb, hml, hown, hts, hK, hN, hE, hZ, hC, hl9, hN0, ho, hX, hbl, hL⟩ := C0
  obtain ⟨R, RS, N9, S, F, sv, n, len, kp, th, oo, m9, hDW, hMM, hLo, hg, hbu, hn6, hl6, hsv, hks, hm9⟩ := hI
  have hF : CallFix p m c cL_law 9 s #[Value.ref b] wsL_law RL := ⟨hx, hb, hml, hown, hts⟩
  have hα : inj 115 (al N o) := al_inj ho
  have hμ : inj 10 (mu N) := mu_inj N
  refine lv_aload_n hx hb dL_law_244 rfl (lv_at hl 1 rfl) ?_
  refine lv_aload_n hx hb dL_law_245 rfl (lv_at hl 0 rfl) ?_
  refine lv_iload hx hb dL_law_246 (lv_at hl 4 rfl) ?_
  refine lv_iconst (v := 1) hx hb dL_law_248 (by decide) ?_
  refine lv_iadd hx hb dL_law_249 ?_
  rw [nI_1 i]
  refine va_sld hx hb hX hbl (Nat.not_le.mpr hbl) hS (vp_in_nI (n := (i + 1)) (N := L) (by omega) (by omega)) dL_law_250 ?_
  rw [nI_clamp (n := (i + 1)) (by omega)]
  refine lv_aload_n hx hb dL_law_251 rfl (lv_at hl 0 rfl) ?_
  refine lv_iload hx hb dL_law_252 (lv_at hl 4 rfl) ?_
  refine lv_iconst (v := 2) hx hb dL_law_254 (by decide) ?_
  refine lv_iadd hx hb dL_law_255 ?_
  rw [nI_2 i]
  refine va_sld hx hb hX hbl (Nat.not_le.mpr hbl) hS (vp_in_nI (n := (i + 2)) (N := L) (by omega) (by omega)) dL_law_256 ?_
  rw [nI_clamp (n := (i + 2)) (by omega)]
  refine lv_aload_n hx hb dL_law_257 rfl (lv_at hl 3 rfl) ?_
  refine dpl_Si hF hK hN hE hZ hC (c_L_speed l hl9 D G (al N o) R RS kp sv n F len oo (xs (i + 1)) (xs (i + 2)) _ hα hDW hLo hg hn6 hl6) (vx_cwSW 4 hts gL_law_L_speed rfl rfl rfl (by decide +kernel) ⟨Nat.le_of_ble_eq_true rfl, Nat.le_of_ble_eq_true rfl⟩) hS (fun q hq => al_ge hN0 ho hq) [] rfl rfl hl.1 (Nat.le_of_ble_eq_true rfl) dL_law_258 ⟨by show cells + 2 ≤ 643901; omega, by show slots + 12 ≤ 7164402; omega⟩ (fun r1 H1 locs hp hz1 hk1 hS => ?_)
  have hMM := hMM.cl ho (fun q hq => hq) hk1
  obtain ⟨rfl, hp1⟩ := hp
  rcases hp1 with ⟨h0, hDW, o2, ho2, hLo⟩ | ⟨h0, hDW, hLo⟩
  · refine lv_istore (lv' := [(5, .int (cSpeed (xs (i + 1)) (xs (i + 2)))), (0, .ref b), (1, .ref N), (2, .ref (N + 104)), (3, .ref o), (4, .int (nI i))]) hx hb dL_law_261 hl (by decide) rfl (fun ls hl => ?_)
    refine lv_aload_n hx hb dL_law_263 rfl (lv_at hl 3 rfl) ?_
    refine lv_aload_n hx hb dL_law_264 rfl (lv_at hl 1 rfl) ?_
    refine lv_iload hx hb dL_law_265 (lv_at hl 5 rfl) ?_
    refine lv_iconst (v := 1) hx hb dL_law_267 (by decide) ?_
    refine lv_iadd hx hb dL_law_268 ?_
    rw [nI_1 i]
    refine va_sld hx hb hX hbl (Nat.not_le.mpr hbl) hS (vp_in_nI (n := (i + 1)) (N := L) (by omega) (by omega)) dL_law_269 ?_
    rw [nI_clamp (n := (i + 1)) (by omega)]
    refine lv_aload_n hx hb dL_law_270 rfl (lv_at hl 1 rfl) ?_
    refine lv_iload hx hb dL_law_271 (lv_at hl 5 rfl) ?_
    refine lv_iconst (v := 2) hx hb dL_law_273 (by decide) ?_
    refine lv_iadd hx hb dL_law_274 ?_
    rw [nI_2 i]
    refine va_sld hx hb hX hbl (Nat.not_le.mpr hbl) hS (vp_in_nI (n := (i + 2)) (N := L) (by omega) (by omega)) dL_law_275 ?_
    rw [nI_clamp (n := (i + 2)) (by omega)]
    obtain ⟨E, P, L1, L2, L3, la, sp, od, hs, hM⟩ := hMM
    refine dp_Vi hF hK hN (c_X6_speed l D G (mu N) R S N9 E P F L1 L2 L3 (nI n) kp th la (nI len) sp od hs n (xs (i + 1)) (xs (i + 2)) _ hμ hM hg rfl hn6) (cwV 2 hts gL_law_X6_speed rfl rfl rfl (by decide +kernel) ⟨Nat.le_of_ble_eq_true rfl, Nat.le_of_ble_eq_true rfl⟩) (dp_recv hK hM.1 rfl) hS (fun q hq => mu_ge hN0 hq) [] rfl rfl hl.1 (Nat.le_of_ble_eq_true rfl) dL_law_276 ⟨by show cells + 2 ≤ 643901; omega, by show slots + 12 ≤ 7164402; omega⟩ (fun r9 H1 locs hp hzH1 hkH1 hS => ?_)
    have hDW := hDW.md ho hkH1
    have hLo := hLo.kept (hkH1 _ hLo.lt (A6_al (k := 114) ho (by omega) (by omega)))
    obtain ⟨-, rfl, hMM⟩ := hp.resolve_right (fun q => q.1 h0)
    refine lv_istore (lv' := [(6, .int (R (10 + 10 * ix (xs (i + 1))))), (5, .int (cSpeed (xs (i + 1)) (xs (i + 2)))), (0, .ref b), (1, .ref N), (2, .ref (N + 104)), (3, .ref o), (4, .int (nI i))]) hx hb dL_law_279 hl (by decide) rfl (fun ls hl => ?_)
    refine lv_aload_n hx hb dL_law_281 rfl (lv_at hl 4 rfl) ?_
    obtain ⟨E, P, L1, L2, L3, la, sp, od, hs, hM⟩ := hMM
    refine dp_Vi hF hK hN (c_X6_thrown l D G (mu N) (upd R (10 + 10 * ix (xs (i + 1))) (xs (i + 2))) (msv S R n) N9 E P F L1 L2 L3 (nI (svn n)) kp 0 la (nI len) sp od hs _ hμ hM) (cwV 0 hts gL_law_X6_thrown rfl rfl rfl (by decide +kernel) ⟨Nat.le_of_ble_eq_true rfl, Nat.le_of_ble_eq_true rfl⟩) (dp_recv hK hM.1 rfl) hS nA_i [] rfl rfl hl.1 (Nat.le_of_ble_eq_true rfl) dL_law_282 ⟨by show cells + 2 ≤ 643901; omega, by show slots + 12 ≤ 7164402; omega⟩ (fun rH2 H2 locs hp hzH2 hkH2 hS => ?_)
    obtain ⟨rfl, rfl⟩ := hp
    have hMM := MM.of hM
    refine lv_iload hx hb dL_law_285 (lv_at hl 1 rfl) ?_
    refine lv_icmp_eq (tgt := 292) hx hb dL_law_287 (by decide) (fun c1 => ?_) (fun c1 => absurd h0.symm c1)
    refine lv_iload hx hb dL_law_292 (lv_at hl 1 rfl) ?_
    refine lv_if_ne (tgt := 309) hx hb dL_law_294 (by decide) (fun c2 => absurd c2 (fun q => q h0)) (fun c2 => ?_)
    refine lv_aload_n hx hb dL_law_297 rfl (lv_at hl 5 rfl) ?_
    refine lv_iconst (v := 0) hx hb dL_law_298 (by decide) ?_
    refine dp_lald hx hb hK hLo 4 rfl 0 rfl (by decide) (by decide) dL_law_299 ?_
    rw [ho2]
    refine lv_iload hx hb dL_law_300 (lv_at hl 0 rfl) ?_
    refine lv_i2l hx hb dL_law_302 rfl ?_
    refine W.lcmp hx hb dL_law_303 ?_
    refine lv_if_eq (tgt := 309) hx hb dL_law_304 (by decide) (fun c3 => ?_) (fun c3 => absurd (lg_self _) c3)
    refine lv_goto (tgt := 1574) hx hb dL_law_309 (by decide) ?_
    refine W.widen (k := cells + 4) (n := slots + 24) (by omega) (by omega) ?_
    exact kk _ _ _ hS ⟨(upd R (10 + 10 * ix (xs (i + 1))) (xs (i + 2))), RS, N9, (msv S R n), F, (svs sv n R), (svn n), len, kp, _, _, m9, hDW, hMM, hLo, (gb_speed hg hbu h0).1, (gb_speed hg hbu h0).2, (svn_le hn6), hl6, (hsv.save hn6 hg hbu), hks, (by omega)⟩ (lv_sub hl [2, 3, 4, 5, 6] rfl)
  · refine lv_istore (lv' := [(5, .int (cSpeed (xs (i + 1)) (xs (i + 2)))), (0, .ref b), (1, .ref N), (2, .ref (N + 104)), (3, .ref o), (4, .int (nI i))]) hx hb dL_law_261 hl (by decide) rfl (fun ls hl => ?_)
    refine lv_aload_n hx hb dL_law_263 rfl (lv_at hl 3 rfl) ?_
    refine lv_aload_n hx hb dL_law_264 rfl (lv_at hl 1 rfl) ?_
    refine lv_iload hx hb dL_law_265 (lv_at hl 5 rfl) ?_
    refine lv_iconst (v := 1) hx hb dL_law_267 (by decide) ?_
    refine lv_iadd hx hb dL_law_268 ?_
    rw [nI_1 i]
    refine va_sld hx hb hX hbl (Nat.not_le.mpr hbl) hS (vp_in_nI (n := (i + 1)) (N := L) (by omega) (by omega)) dL_law_269 ?_
    rw [nI_clamp (n := (i + 1)) (by omega)]
    refine lv_aload_n hx hb dL_law_270 rfl (lv_at hl 1 rfl) ?_
    refine lv_iload hx hb dL_law_271 (lv_at hl 5 rfl) ?_
    refine lv_iconst (v := 2) hx hb dL_law_273 (by decide) ?_
    refine lv_iadd hx hb dL_law_274 ?_
    rw [nI_2 i]
    refine va_sld hx hb hX hbl (Nat.not_le.mpr hbl) hS (vp_in_nI (n := (i + 2)) (N := L) (by omega) (by omega)) dL_law_275 ?_
    rw [nI_clamp (n := (i + 2)) (by omega)]
    obtain ⟨E, P, L1, L2, L3, la, sp, od, hs, hM⟩ := hMM
    refine dp_Vi hF hK hN (c_X6_speed l D G (mu N) R S N9 E P F L1 L2 L3 (nI n) kp th la (nI len) sp od hs n (xs (i + 1)) (xs (i + 2)) _ hμ hM hg rfl hn6) (cwV 2 hts gL_law_X6_speed rfl rfl rfl (by decide +kernel) ⟨Nat.le_of_ble_eq_true rfl, Nat.le_of_ble_eq_true rfl⟩) (dp_recv hK hM.1 rfl) hS (fun q hq => mu_ge hN0 hq) [] rfl rfl hl.1 (Nat.le_of_ble_eq_true rfl) dL_law_276 ⟨by show cells + 2 ≤ 643901; omega, by show slots + 12 ≤ 7164402; omega⟩ (fun r9 H3 locs hp hzH3 hkH3 hS => ?_)
    have hDW := hDW.md ho hkH3
    have hLo := hLo.kept (hkH3 _ hLo.lt (A6_al (k := 114) ho (by omega) (by omega)))
    obtain ⟨-, hMM⟩ := hp.resolve_left (fun q => h0 q.1)
    refine lv_istore (lv' := [(6, .int r9), (5, .int (cSpeed (xs (i + 1)) (xs (i + 2)))), (0, .ref b), (1, .ref N), (2, .ref (N + 104)), (3, .ref o), (4, .int (nI i))]) hx hb dL_law_279 hl (by decide) rfl (fun ls hl => ?_)
    refine lv_aload_n hx hb dL_law_281 rfl (lv_at hl 4 rfl) ?_
    obtain ⟨E, P, L1, L2, L3, la, sp, od, hs, hM⟩ := hMM
    refine dp_Vi hF hK hN (c_X6_thrown l D G (mu N) R S N9 E P F L1 L2 L3 (nI n) kp (cSpeed (xs (i + 1)) (xs (i + 2))) la (nI len) sp od hs _ hμ hM) (cwV 0 hts gL_law_X6_thrown rfl rfl rfl (by decide +kernel) ⟨Nat.le_of_ble_eq_true rfl, Nat.le_of_ble_eq_true rfl⟩) (dp_recv hK hM.1 rfl) hS nA_i [] rfl rfl hl.1 (Nat.le_of_ble_eq_true rfl) dL_law_282 ⟨by show cells + 2 ≤ 643901; omega, by show slots + 12 ≤ 7164402; omega⟩ (fun rH4 H4 locs hp hzH4 hkH4 hS => ?_)
    obtain ⟨rfl, rfl⟩ := hp
    have hMM := MM.of hM
    refine lv_iload hx hb dL_law_285 (lv_at hl 1 rfl) ?_
    refine lv_icmp_eq (tgt := 292) hx hb dL_law_287 (by decide) (fun c4 => ?_) (fun c4 => absurd rfl c4)
    refine lv_iload hx hb dL_law_292 (lv_at hl 1 rfl) ?_
    refine lv_if_ne (tgt := 309) hx hb dL_law_294 (by decide) (fun c5 => ?_) (fun c5 => absurd c5 h0)
    refine lv_goto (tgt := 1574) hx hb dL_law_309 (by decide) ?_
    refine W.widen (k := cells + 4) (n := slots + 24) (by omega) (by omega) ?_
    exact kk _ _ _ hS ⟨R, RS, N9, S, F, sv, n, len, kp, _, _, m9, hDW, hMM, hLo, hg, hbu, hn6, hl6, hsv, hks, (by omega)⟩ (lv_sub hl [2, 3, 4, 5, 6] rfl)

set_option maxHeartbeats 1600000 in
set_option maxRecDepth 100000 in
theorem K_run {p : Program} {l : Launch} {e : Env} {s : State} {m : MethodId} {below : List Frame} {meth : Method} {c : Code} {D : va_G} {G : Nat → ClassId} {b N o L c9 : Nat} {xs : Nat → Int32} {Q : State → Prop} {H : Heap} {locs : List Loc} {cells slots : Nat} {ls : Array Slot} (C0 : LC p l s m b c D G N o L xs) (hcs : cells + 4 ≤ 643901 ∧ slots + 24 ≤ 7164402) (hS : va_S (fun q => s.heap.size ≤ q) s.heap H locs) (hI : LInv D G N o c9 H) (hc9 : c9 < 512) (i : Nat) (hi : i + 4 ≤ L) (hl : lv_has ls 9 [(0, .ref b), (1, .ref N), (2, .ref (N + 104)), (3, .ref o), (4, .int (nI i))]) (kk : ∀ (H1 : Heap) (locs1 : List Loc) (ls1 : Array Slot), va_S (fun q => s.heap.size ≤ q) s.heap H1 locs1 → LInv D G N o (c9 + 1) H1 → lv_has ls1 9 [(0, .ref b), (1, .ref N), (2, .ref (N + 104)), (3, .ref o), (4, .int (nI i))] → W p l e room_1 s m #[Value.ref b] below meth c H1 locs1 (cells + 4) (slots + 24) Q (F0 m 1574 ls1 [])) : W p l e room_1 s m #[Value.ref b] below meth c H locs cells slots Q (F0 m 312 ls []) := by
  obtain ⟨hx, hb, hml, hown, hts, hK, hN, hE, hZ, hC, hl9, hN0, ho, hX, hbl, hL⟩ := C0
  obtain ⟨R, RS, N9, S, F, sv, n, len, kp, th, oo, m9, hDW, hMM, hLo, hg, hbu, hn6, hl6, hsv, hks, hm9⟩ := hI
  have hF : CallFix p m c cL_law 9 s #[Value.ref b] wsL_law RL := ⟨hx, hb, hml, hown, hts⟩
  have hα : inj 115 (al N o) := al_inj ho
  have hμ : inj 10 (mu N) := mu_inj N
  refine lv_aload_n hx hb dL_law_312 rfl (lv_at hl 1 rfl) ?_
  refine lv_aload_n hx hb dL_law_313 rfl (lv_at hl 0 rfl) ?_
  refine lv_iload hx hb dL_law_314 (lv_at hl 4 rfl) ?_
  refine lv_iconst (v := 1) hx hb dL_law_316 (by decide) ?_
  refine lv_iadd hx hb dL_law_317 ?_
  rw [nI_1 i]
  refine va_sld hx hb hX hbl (Nat.not_le.mpr hbl) hS (vp_in_nI (n := (i + 1)) (N := L) (by omega) (by omega)) dL_law_318 ?_
  rw [nI_clamp (n := (i + 1)) (by omega)]
  refine lv_aload_n hx hb dL_law_319 rfl (lv_at hl 3 rfl) ?_
  refine dpl_Si hF hK hN hE hZ hC (c_L_run l hl9 D G (al N o) R RS kp sv n F len oo (xs (i + 1)) _ hα hDW hLo hg hn6 hl6) (vx_cwSW 3 hts gL_law_L_run rfl rfl rfl (by decide +kernel) ⟨Nat.le_of_ble_eq_true rfl, Nat.le_of_ble_eq_true rfl⟩) hS (fun q hq => al_ge hN0 ho hq) [] rfl rfl hl.1 (Nat.le_of_ble_eq_true rfl) dL_law_320 ⟨by show cells + 2 ≤ 643901; omega, by show slots + 12 ≤ 7164402; omega⟩ (fun r1 H1 locs hp hz1 hk1 hS => ?_)
  have hMM := hMM.cl ho (fun q hq => hq) hk1
  obtain ⟨rfl, hp1⟩ := hp
  rcases hp1 with ⟨h0, hDW, o2, ho2, hLo⟩ | ⟨h0, hDW, hLo⟩
  · refine lv_istore (lv' := [(5, .int (cRun R (xs (i + 1)))), (0, .ref b), (1, .ref N), (2, .ref (N + 104)), (3, .ref o), (4, .int (nI i))]) hx hb dL_law_323 hl (by decide) rfl (fun ls hl => ?_)
    refine lv_aload_n hx hb dL_law_325 rfl (lv_at hl 3 rfl) ?_
    refine lv_aload_n hx hb dL_law_326 rfl (lv_at hl 1 rfl) ?_
    refine lv_iload hx hb dL_law_327 (lv_at hl 5 rfl) ?_
    refine lv_iconst (v := 1) hx hb dL_law_329 (by decide) ?_
    refine lv_iadd hx hb dL_law_330 ?_
    rw [nI_1 i]
    refine va_sld hx hb hX hbl (Nat.not_le.mpr hbl) hS (vp_in_nI (n := (i + 1)) (N := L) (by omega) (by omega)) dL_law_331 ?_
    rw [nI_clamp (n := (i + 1)) (by omega)]
    obtain ⟨E, P, L1, L2, L3, la, sp, od, hs, hM⟩ := hMM
    refine dp_Vi hF hK hN (c_X6_run l D G (mu N) R S N9 E P F L1 L2 L3 (nI n) kp th la (nI len) sp od hs n (xs (i + 1)) _ hμ hM hg rfl hn6) (cwV 1 hts gL_law_X6_run rfl rfl rfl (by decide +kernel) ⟨Nat.le_of_ble_eq_true rfl, Nat.le_of_ble_eq_true rfl⟩) (dp_recv hK hM.1 rfl) hS (fun q hq => mu_ge hN0 hq) [] rfl rfl hl.1 (Nat.le_of_ble_eq_true rfl) dL_law_332 ⟨by show cells + 2 ≤ 643901; omega, by show slots + 12 ≤ 7164402; omega⟩ (fun r9 H1 locs hp hzH1 hkH1 hS => ?_)
    have hDW := hDW.md ho hkH1
    have hLo := hLo.kept (hkH1 _ hLo.lt (A6_al (k := 114) ho (by omega) (by omega)))
    obtain ⟨-, rfl, hMM⟩ := hp.resolve_right (fun q => q.1 h0)
    refine lv_istore (lv' := [(6, .int (osum (rst (upd R (11 + 10 * ix (xs (i + 1))) 1) (ix (xs (i + 1)))) 11 3)), (5, .int (cRun R (xs (i + 1)))), (0, .ref b), (1, .ref N), (2, .ref (N + 104)), (3, .ref o), (4, .int (nI i))]) hx hb dL_law_335 hl (by decide) rfl (fun ls hl => ?_)
    refine lv_aload_n hx hb dL_law_337 rfl (lv_at hl 4 rfl) ?_
    obtain ⟨E, P, L1, L2, L3, la, sp, od, hs, hM⟩ := hMM
    refine dp_Vi hF hK hN (c_X6_thrown l D G (mu N) (rst (upd R (11 + 10 * ix (xs (i + 1))) 1) (ix (xs (i + 1)))) (msv S R n) N9 E P F L1 L2 L3 (nI (svn n)) kp 0 la (nI len) sp od hs _ hμ hM) (cwV 0 hts gL_law_X6_thrown rfl rfl rfl (by decide +kernel) ⟨Nat.le_of_ble_eq_true rfl, Nat.le_of_ble_eq_true rfl⟩) (dp_recv hK hM.1 rfl) hS nA_i [] rfl rfl hl.1 (Nat.le_of_ble_eq_true rfl) dL_law_338 ⟨by show cells + 2 ≤ 643901; omega, by show slots + 12 ≤ 7164402; omega⟩ (fun rH2 H2 locs hp hzH2 hkH2 hS => ?_)
    obtain ⟨rfl, rfl⟩ := hp
    have hMM := MM.of hM
    refine lv_iload hx hb dL_law_341 (lv_at hl 1 rfl) ?_
    refine lv_icmp_eq (tgt := 348) hx hb dL_law_343 (by decide) (fun c1 => ?_) (fun c1 => absurd h0.symm c1)
    refine lv_iload hx hb dL_law_348 (lv_at hl 1 rfl) ?_
    refine lv_if_ne (tgt := 365) hx hb dL_law_350 (by decide) (fun c2 => absurd c2 (fun q => q h0)) (fun c2 => ?_)
    refine lv_aload_n hx hb dL_law_353 rfl (lv_at hl 5 rfl) ?_
    refine lv_iconst (v := 0) hx hb dL_law_354 (by decide) ?_
    refine dp_lald hx hb hK hLo 4 rfl 0 rfl (by decide) (by decide) dL_law_355 ?_
    rw [ho2]
    refine lv_iload hx hb dL_law_356 (lv_at hl 0 rfl) ?_
    refine lv_i2l hx hb dL_law_358 rfl ?_
    refine W.lcmp hx hb dL_law_359 ?_
    refine lv_if_eq (tgt := 365) hx hb dL_law_360 (by decide) (fun c3 => ?_) (fun c3 => absurd (lg_self _) c3)
    refine lv_goto (tgt := 1574) hx hb dL_law_365 (by decide) ?_
    refine W.widen (k := cells + 4) (n := slots + 24) (by omega) (by omega) ?_
    exact kk _ _ _ hS ⟨(rst (upd R (11 + 10 * ix (xs (i + 1))) 1) (ix (xs (i + 1)))), RS, N9, (msv S R n), F, (svs sv n R), (svn n), len, kp, _, _, m9, hDW, hMM, hLo, (gb_sw hg hbu (nS_0 h0).1 (Or.inl rfl) (Or.inr rfl)).1, (gb_sw hg hbu (nS_0 h0).1 (Or.inl rfl) (Or.inr rfl)).2, (svn_le hn6), hl6, (hsv.save hn6 hg hbu), hks, (by omega)⟩ (lv_sub hl [2, 3, 4, 5, 6] rfl)
  · refine lv_istore (lv' := [(5, .int (cRun R (xs (i + 1)))), (0, .ref b), (1, .ref N), (2, .ref (N + 104)), (3, .ref o), (4, .int (nI i))]) hx hb dL_law_323 hl (by decide) rfl (fun ls hl => ?_)
    refine lv_aload_n hx hb dL_law_325 rfl (lv_at hl 3 rfl) ?_
    refine lv_aload_n hx hb dL_law_326 rfl (lv_at hl 1 rfl) ?_
    refine lv_iload hx hb dL_law_327 (lv_at hl 5 rfl) ?_
    refine lv_iconst (v := 1) hx hb dL_law_329 (by decide) ?_
    refine lv_iadd hx hb dL_law_330 ?_
    rw [nI_1 i]
    refine va_sld hx hb hX hbl (Nat.not_le.mpr hbl) hS (vp_in_nI (n := (i + 1)) (N := L) (by omega) (by omega)) dL_law_331 ?_
    rw [nI_clamp (n := (i + 1)) (by omega)]
    obtain ⟨E, P, L1, L2, L3, la, sp, od, hs, hM⟩ := hMM
    refine dp_Vi hF hK hN (c_X6_run l D G (mu N) R S N9 E P F L1 L2 L3 (nI n) kp th la (nI len) sp od hs n (xs (i + 1)) _ hμ hM hg rfl hn6) (cwV 1 hts gL_law_X6_run rfl rfl rfl (by decide +kernel) ⟨Nat.le_of_ble_eq_true rfl, Nat.le_of_ble_eq_true rfl⟩) (dp_recv hK hM.1 rfl) hS (fun q hq => mu_ge hN0 hq) [] rfl rfl hl.1 (Nat.le_of_ble_eq_true rfl) dL_law_332 ⟨by show cells + 2 ≤ 643901; omega, by show slots + 12 ≤ 7164402; omega⟩ (fun r9 H3 locs hp hzH3 hkH3 hS => ?_)
    have hDW := hDW.md ho hkH3
    have hLo := hLo.kept (hkH3 _ hLo.lt (A6_al (k := 114) ho (by omega) (by omega)))
    obtain ⟨-, hMM⟩ := hp.resolve_left (fun q => h0 q.1)
    refine lv_istore (lv' := [(6, .int r9), (5, .int (cRun R (xs (i + 1)))), (0, .ref b), (1, .ref N), (2, .ref (N + 104)), (3, .ref o), (4, .int (nI i))]) hx hb dL_law_335 hl (by decide) rfl (fun ls hl => ?_)
    refine lv_aload_n hx hb dL_law_337 rfl (lv_at hl 4 rfl) ?_
    obtain ⟨E, P, L1, L2, L3, la, sp, od, hs, hM⟩ := hMM
    refine dp_Vi hF hK hN (c_X6_thrown l D G (mu N) R S N9 E P F L1 L2 L3 (nI n) kp (cRun R (xs (i + 1))) la (nI len) sp od hs _ hμ hM) (cwV 0 hts gL_law_X6_thrown rfl rfl rfl (by decide +kernel) ⟨Nat.le_of_ble_eq_true rfl, Nat.le_of_ble_eq_true rfl⟩) (dp_recv hK hM.1 rfl) hS nA_i [] rfl rfl hl.1 (Nat.le_of_ble_eq_true rfl) dL_law_338 ⟨by show cells + 2 ≤ 643901; omega, by show slots + 12 ≤ 7164402; omega⟩ (fun rH4 H4 locs hp hzH4 hkH4 hS => ?_)
    obtain ⟨rfl, rfl⟩ := hp
    have hMM := MM.of hM
    refine lv_iload hx hb dL_law_341 (lv_at hl 1 rfl) ?_
    refine lv_icmp_eq (tgt := 348) hx hb dL_law_343 (by decide) (fun c4 => ?_) (fun c4 => absurd rfl c4)
    refine lv_iload hx hb dL_law_348 (lv_at hl 1 rfl) ?_
    refine lv_if_ne (tgt := 365) hx hb dL_law_350 (by decide) (fun c5 => ?_) (fun c5 => absurd c5 h0)
    refine lv_goto (tgt := 1574) hx hb dL_law_365 (by decide) ?_
    refine W.widen (k := cells + 4) (n := slots + 24) (by omega) (by omega) ?_
    exact kk _ _ _ hS ⟨R, RS, N9, S, F, sv, n, len, kp, _, _, m9, hDW, hMM, hLo, hg, hbu, hn6, hl6, hsv, hks, (by omega)⟩ (lv_sub hl [2, 3, 4, 5, 6] rfl)

set_option maxHeartbeats 1600000 in
set_option maxRecDepth 100000 in
theorem K_halt {p : Program} {l : Launch} {e : Env} {s : State} {m : MethodId} {below : List Frame} {meth : Method} {c : Code} {D : va_G} {G : Nat → ClassId} {b N o L c9 : Nat} {xs : Nat → Int32} {Q : State → Prop} {H : Heap} {locs : List Loc} {cells slots : Nat} {ls : Array Slot} (C0 : LC p l s m b c D G N o L xs) (hcs : cells + 4 ≤ 643901 ∧ slots + 24 ≤ 7164402) (hS : va_S (fun q => s.heap.size ≤ q) s.heap H locs) (hI : LInv D G N o c9 H) (hc9 : c9 < 512) (i : Nat) (hi : i + 4 ≤ L) (hl : lv_has ls 9 [(0, .ref b), (1, .ref N), (2, .ref (N + 104)), (3, .ref o), (4, .int (nI i))]) (kk : ∀ (H1 : Heap) (locs1 : List Loc) (ls1 : Array Slot), va_S (fun q => s.heap.size ≤ q) s.heap H1 locs1 → LInv D G N o (c9 + 1) H1 → lv_has ls1 9 [(0, .ref b), (1, .ref N), (2, .ref (N + 104)), (3, .ref o), (4, .int (nI i))] → W p l e room_1 s m #[Value.ref b] below meth c H1 locs1 (cells + 4) (slots + 24) Q (F0 m 1574 ls1 [])) : W p l e room_1 s m #[Value.ref b] below meth c H locs cells slots Q (F0 m 368 ls []) := by
  obtain ⟨hx, hb, hml, hown, hts, hK, hN, hE, hZ, hC, hl9, hN0, ho, hX, hbl, hL⟩ := C0
  obtain ⟨R, RS, N9, S, F, sv, n, len, kp, th, oo, m9, hDW, hMM, hLo, hg, hbu, hn6, hl6, hsv, hks, hm9⟩ := hI
  have hF : CallFix p m c cL_law 9 s #[Value.ref b] wsL_law RL := ⟨hx, hb, hml, hown, hts⟩
  have hα : inj 115 (al N o) := al_inj ho
  have hμ : inj 10 (mu N) := mu_inj N
  refine lv_aload_n hx hb dL_law_368 rfl (lv_at hl 1 rfl) ?_
  refine lv_aload_n hx hb dL_law_369 rfl (lv_at hl 0 rfl) ?_
  refine lv_iload hx hb dL_law_370 (lv_at hl 4 rfl) ?_
  refine lv_iconst (v := 1) hx hb dL_law_372 (by decide) ?_
  refine lv_iadd hx hb dL_law_373 ?_
  rw [nI_1 i]
  refine va_sld hx hb hX hbl (Nat.not_le.mpr hbl) hS (vp_in_nI (n := (i + 1)) (N := L) (by omega) (by omega)) dL_law_374 ?_
  rw [nI_clamp (n := (i + 1)) (by omega)]
  refine lv_aload_n hx hb dL_law_375 rfl (lv_at hl 3 rfl) ?_
  refine dpl_Si hF hK hN hE hZ hC (c_L_halt l hl9 D G (al N o) R RS kp sv n F len oo (xs (i + 1)) _ hα hDW hLo hg hn6 hl6) (vx_cwSW 3 hts gL_law_L_halt rfl rfl rfl (by decide +kernel) ⟨Nat.le_of_ble_eq_true rfl, Nat.le_of_ble_eq_true rfl⟩) hS (fun q hq => al_ge hN0 ho hq) [] rfl rfl hl.1 (Nat.le_of_ble_eq_true rfl) dL_law_376 ⟨by show cells + 2 ≤ 643901; omega, by show slots + 12 ≤ 7164402; omega⟩ (fun r1 H1 locs hp hz1 hk1 hS => ?_)
  have hMM := hMM.cl ho (fun q hq => hq) hk1
  obtain ⟨rfl, hp1⟩ := hp
  rcases hp1 with ⟨h0, hDW, o2, ho2, hLo⟩ | ⟨h0, hDW, hLo⟩
  · refine lv_istore (lv' := [(5, .int (cHalt R (xs (i + 1)))), (0, .ref b), (1, .ref N), (2, .ref (N + 104)), (3, .ref o), (4, .int (nI i))]) hx hb dL_law_379 hl (by decide) rfl (fun ls hl => ?_)
    refine lv_aload_n hx hb dL_law_381 rfl (lv_at hl 3 rfl) ?_
    refine lv_aload_n hx hb dL_law_382 rfl (lv_at hl 1 rfl) ?_
    refine lv_iload hx hb dL_law_383 (lv_at hl 5 rfl) ?_
    refine lv_iconst (v := 1) hx hb dL_law_385 (by decide) ?_
    refine lv_iadd hx hb dL_law_386 ?_
    rw [nI_1 i]
    refine va_sld hx hb hX hbl (Nat.not_le.mpr hbl) hS (vp_in_nI (n := (i + 1)) (N := L) (by omega) (by omega)) dL_law_387 ?_
    rw [nI_clamp (n := (i + 1)) (by omega)]
    obtain ⟨E, P, L1, L2, L3, la, sp, od, hs, hM⟩ := hMM
    refine dp_Vi hF hK hN (c_X6_halt l D G (mu N) R S N9 E P F L1 L2 L3 (nI n) kp th la (nI len) sp od hs n (xs (i + 1)) _ hμ hM hg rfl hn6) (cwV 1 hts gL_law_X6_halt rfl rfl rfl (by decide +kernel) ⟨Nat.le_of_ble_eq_true rfl, Nat.le_of_ble_eq_true rfl⟩) (dp_recv hK hM.1 rfl) hS (fun q hq => mu_ge hN0 hq) [] rfl rfl hl.1 (Nat.le_of_ble_eq_true rfl) dL_law_388 ⟨by show cells + 2 ≤ 643901; omega, by show slots + 12 ≤ 7164402; omega⟩ (fun r9 H1 locs hp hzH1 hkH1 hS => ?_)
    have hDW := hDW.md ho hkH1
    have hLo := hLo.kept (hkH1 _ hLo.lt (A6_al (k := 114) ho (by omega) (by omega)))
    obtain ⟨-, rfl, hMM⟩ := hp.resolve_right (fun q => q.1 h0)
    refine lv_istore (lv' := [(6, .int (osum (rst (upd R (11 + 10 * ix (xs (i + 1))) 0) (ix (xs (i + 1)))) 11 3)), (5, .int (cHalt R (xs (i + 1)))), (0, .ref b), (1, .ref N), (2, .ref (N + 104)), (3, .ref o), (4, .int (nI i))]) hx hb dL_law_391 hl (by decide) rfl (fun ls hl => ?_)
    refine lv_aload_n hx hb dL_law_393 rfl (lv_at hl 4 rfl) ?_
    obtain ⟨E, P, L1, L2, L3, la, sp, od, hs, hM⟩ := hMM
    refine dp_Vi hF hK hN (c_X6_thrown l D G (mu N) (rst (upd R (11 + 10 * ix (xs (i + 1))) 0) (ix (xs (i + 1)))) (msv S R n) N9 E P F L1 L2 L3 (nI (svn n)) kp 0 la (nI len) sp od hs _ hμ hM) (cwV 0 hts gL_law_X6_thrown rfl rfl rfl (by decide +kernel) ⟨Nat.le_of_ble_eq_true rfl, Nat.le_of_ble_eq_true rfl⟩) (dp_recv hK hM.1 rfl) hS nA_i [] rfl rfl hl.1 (Nat.le_of_ble_eq_true rfl) dL_law_394 ⟨by show cells + 2 ≤ 643901; omega, by show slots + 12 ≤ 7164402; omega⟩ (fun rH2 H2 locs hp hzH2 hkH2 hS => ?_)
    obtain ⟨rfl, rfl⟩ := hp
    have hMM := MM.of hM
    refine lv_iload hx hb dL_law_397 (lv_at hl 1 rfl) ?_
    refine lv_icmp_eq (tgt := 404) hx hb dL_law_399 (by decide) (fun c1 => ?_) (fun c1 => absurd h0.symm c1)
    refine lv_iload hx hb dL_law_404 (lv_at hl 1 rfl) ?_
    refine lv_if_ne (tgt := 421) hx hb dL_law_406 (by decide) (fun c2 => absurd c2 (fun q => q h0)) (fun c2 => ?_)
    refine lv_aload_n hx hb dL_law_409 rfl (lv_at hl 5 rfl) ?_
    refine lv_iconst (v := 0) hx hb dL_law_410 (by decide) ?_
    refine dp_lald hx hb hK hLo 4 rfl 0 rfl (by decide) (by decide) dL_law_411 ?_
    rw [ho2]
    refine lv_iload hx hb dL_law_412 (lv_at hl 0 rfl) ?_
    refine lv_i2l hx hb dL_law_414 rfl ?_
    refine W.lcmp hx hb dL_law_415 ?_
    refine lv_if_eq (tgt := 421) hx hb dL_law_416 (by decide) (fun c3 => ?_) (fun c3 => absurd (lg_self _) c3)
    refine lv_goto (tgt := 1574) hx hb dL_law_421 (by decide) ?_
    refine W.widen (k := cells + 4) (n := slots + 24) (by omega) (by omega) ?_
    exact kk _ _ _ hS ⟨(rst (upd R (11 + 10 * ix (xs (i + 1))) 0) (ix (xs (i + 1)))), RS, N9, (msv S R n), F, (svs sv n R), (svn n), len, kp, _, _, m9, hDW, hMM, hLo, (gb_sw hg hbu (nS_0 h0).1 (Or.inl rfl) (Or.inl rfl)).1, (gb_sw hg hbu (nS_0 h0).1 (Or.inl rfl) (Or.inl rfl)).2, (svn_le hn6), hl6, (hsv.save hn6 hg hbu), hks, (by omega)⟩ (lv_sub hl [2, 3, 4, 5, 6] rfl)
  · refine lv_istore (lv' := [(5, .int (cHalt R (xs (i + 1)))), (0, .ref b), (1, .ref N), (2, .ref (N + 104)), (3, .ref o), (4, .int (nI i))]) hx hb dL_law_379 hl (by decide) rfl (fun ls hl => ?_)
    refine lv_aload_n hx hb dL_law_381 rfl (lv_at hl 3 rfl) ?_
    refine lv_aload_n hx hb dL_law_382 rfl (lv_at hl 1 rfl) ?_
    refine lv_iload hx hb dL_law_383 (lv_at hl 5 rfl) ?_
    refine lv_iconst (v := 1) hx hb dL_law_385 (by decide) ?_
    refine lv_iadd hx hb dL_law_386 ?_
    rw [nI_1 i]
    refine va_sld hx hb hX hbl (Nat.not_le.mpr hbl) hS (vp_in_nI (n := (i + 1)) (N := L) (by omega) (by omega)) dL_law_387 ?_
    rw [nI_clamp (n := (i + 1)) (by omega)]
    obtain ⟨E, P, L1, L2, L3, la, sp, od, hs, hM⟩ := hMM
    refine dp_Vi hF hK hN (c_X6_halt l D G (mu N) R S N9 E P F L1 L2 L3 (nI n) kp th la (nI len) sp od hs n (xs (i + 1)) _ hμ hM hg rfl hn6) (cwV 1 hts gL_law_X6_halt rfl rfl rfl (by decide +kernel) ⟨Nat.le_of_ble_eq_true rfl, Nat.le_of_ble_eq_true rfl⟩) (dp_recv hK hM.1 rfl) hS (fun q hq => mu_ge hN0 hq) [] rfl rfl hl.1 (Nat.le_of_ble_eq_true rfl) dL_law_388 ⟨by show cells + 2 ≤ 643901; omega, by show slots + 12 ≤ 7164402; omega⟩ (fun r9 H3 locs hp hzH3 hkH3 hS => ?_)
    have hDW := hDW.md ho hkH3
    have hLo := hLo.kept (hkH3 _ hLo.lt (A6_al (k := 114) ho (by omega) (by omega)))
    obtain ⟨-, hMM⟩ := hp.resolve_left (fun q => h0 q.1)
    refine lv_istore (lv' := [(6, .int r9), (5, .int (cHalt R (xs (i + 1)))), (0, .ref b), (1, .ref N), (2, .ref (N + 104)), (3, .ref o), (4, .int (nI i))]) hx hb dL_law_391 hl (by decide) rfl (fun ls hl => ?_)
    refine lv_aload_n hx hb dL_law_393 rfl (lv_at hl 4 rfl) ?_
    obtain ⟨E, P, L1, L2, L3, la, sp, od, hs, hM⟩ := hMM
    refine dp_Vi hF hK hN (c_X6_thrown l D G (mu N) R S N9 E P F L1 L2 L3 (nI n) kp (cHalt R (xs (i + 1))) la (nI len) sp od hs _ hμ hM) (cwV 0 hts gL_law_X6_thrown rfl rfl rfl (by decide +kernel) ⟨Nat.le_of_ble_eq_true rfl, Nat.le_of_ble_eq_true rfl⟩) (dp_recv hK hM.1 rfl) hS nA_i [] rfl rfl hl.1 (Nat.le_of_ble_eq_true rfl) dL_law_394 ⟨by show cells + 2 ≤ 643901; omega, by show slots + 12 ≤ 7164402; omega⟩ (fun rH4 H4 locs hp hzH4 hkH4 hS => ?_)
    obtain ⟨rfl, rfl⟩ := hp
    have hMM := MM.of hM
    refine lv_iload hx hb dL_law_397 (lv_at hl 1 rfl) ?_
    refine lv_icmp_eq (tgt := 404) hx hb dL_law_399 (by decide) (fun c4 => ?_) (fun c4 => absurd rfl c4)
    refine lv_iload hx hb dL_law_404 (lv_at hl 1 rfl) ?_
    refine lv_if_ne (tgt := 421) hx hb dL_law_406 (by decide) (fun c5 => ?_) (fun c5 => absurd c5 h0)
    refine lv_goto (tgt := 1574) hx hb dL_law_421 (by decide) ?_
    refine W.widen (k := cells + 4) (n := slots + 24) (by omega) (by omega) ?_
    exact kk _ _ _ hS ⟨R, RS, N9, S, F, sv, n, len, kp, _, _, m9, hDW, hMM, hLo, hg, hbu, hn6, hl6, hsv, hks, (by omega)⟩ (lv_sub hl [2, 3, 4, 5, 6] rfl)

set_option maxHeartbeats 1600000 in
set_option maxRecDepth 100000 in
theorem K_close {p : Program} {l : Launch} {e : Env} {s : State} {m : MethodId} {below : List Frame} {meth : Method} {c : Code} {D : va_G} {G : Nat → ClassId} {b N o L c9 : Nat} {xs : Nat → Int32} {Q : State → Prop} {H : Heap} {locs : List Loc} {cells slots : Nat} {ls : Array Slot} (C0 : LC p l s m b c D G N o L xs) (hcs : cells + 4 ≤ 643901 ∧ slots + 24 ≤ 7164402) (hS : va_S (fun q => s.heap.size ≤ q) s.heap H locs) (hI : LInv D G N o c9 H) (hc9 : c9 < 512) (i : Nat) (hi : i + 4 ≤ L) (hl : lv_has ls 9 [(0, .ref b), (1, .ref N), (2, .ref (N + 104)), (3, .ref o), (4, .int (nI i))]) (kk : ∀ (H1 : Heap) (locs1 : List Loc) (ls1 : Array Slot), va_S (fun q => s.heap.size ≤ q) s.heap H1 locs1 → LInv D G N o (c9 + 1) H1 → lv_has ls1 9 [(0, .ref b), (1, .ref N), (2, .ref (N + 104)), (3, .ref o), (4, .int (nI i))] → W p l e room_1 s m #[Value.ref b] below meth c H1 locs1 (cells + 4) (slots + 24) Q (F0 m 1574 ls1 [])) : W p l e room_1 s m #[Value.ref b] below meth c H locs cells slots Q (F0 m 424 ls []) := by
  obtain ⟨hx, hb, hml, hown, hts, hK, hN, hE, hZ, hC, hl9, hN0, ho, hX, hbl, hL⟩ := C0
  obtain ⟨R, RS, N9, S, F, sv, n, len, kp, th, oo, m9, hDW, hMM, hLo, hg, hbu, hn6, hl6, hsv, hks, hm9⟩ := hI
  have hF : CallFix p m c cL_law 9 s #[Value.ref b] wsL_law RL := ⟨hx, hb, hml, hown, hts⟩
  have hα : inj 115 (al N o) := al_inj ho
  have hμ : inj 10 (mu N) := mu_inj N
  refine lv_aload_n hx hb dL_law_424 rfl (lv_at hl 1 rfl) ?_
  refine lv_aload_n hx hb dL_law_425 rfl (lv_at hl 0 rfl) ?_
  refine lv_iload hx hb dL_law_426 (lv_at hl 4 rfl) ?_
  refine lv_iconst (v := 1) hx hb dL_law_428 (by decide) ?_
  refine lv_iadd hx hb dL_law_429 ?_
  rw [nI_1 i]
  refine va_sld hx hb hX hbl (Nat.not_le.mpr hbl) hS (vp_in_nI (n := (i + 1)) (N := L) (by omega) (by omega)) dL_law_430 ?_
  rw [nI_clamp (n := (i + 1)) (by omega)]
  refine lv_aload_n hx hb dL_law_431 rfl (lv_at hl 3 rfl) ?_
  refine dpl_Si hF hK hN hE hZ hC (c_L_close l hl9 D G (al N o) R RS kp sv n F len oo (xs (i + 1)) _ hα hDW hLo hg hn6 hl6) (vx_cwSW 3 hts gL_law_L_close rfl rfl rfl (by decide +kernel) ⟨Nat.le_of_ble_eq_true rfl, Nat.le_of_ble_eq_true rfl⟩) hS (fun q hq => al_ge hN0 ho hq) [] rfl rfl hl.1 (Nat.le_of_ble_eq_true rfl) dL_law_432 ⟨by show cells + 2 ≤ 643901; omega, by show slots + 12 ≤ 7164402; omega⟩ (fun r1 H1 locs hp hz1 hk1 hS => ?_)
  have hMM := hMM.cl ho (fun q hq => hq) hk1
  obtain ⟨rfl, hp1⟩ := hp
  rcases hp1 with ⟨h0, hDW, o2, ho2, hLo⟩ | ⟨h0, hDW, hLo⟩
  · refine lv_istore (lv' := [(5, .int (cClose R (xs (i + 1)))), (0, .ref b), (1, .ref N), (2, .ref (N + 104)), (3, .ref o), (4, .int (nI i))]) hx hb dL_law_435 hl (by decide) rfl (fun ls hl => ?_)
    refine lv_aload_n hx hb dL_law_437 rfl (lv_at hl 3 rfl) ?_
    refine lv_aload_n hx hb dL_law_438 rfl (lv_at hl 1 rfl) ?_
    refine lv_iload hx hb dL_law_439 (lv_at hl 5 rfl) ?_
    refine lv_iconst (v := 1) hx hb dL_law_441 (by decide) ?_
    refine lv_iadd hx hb dL_law_442 ?_
    rw [nI_1 i]
    refine va_sld hx hb hX hbl (Nat.not_le.mpr hbl) hS (vp_in_nI (n := (i + 1)) (N := L) (by omega) (by omega)) dL_law_443 ?_
    rw [nI_clamp (n := (i + 1)) (by omega)]
    obtain ⟨E, P, L1, L2, L3, la, sp, od, hs, hM⟩ := hMM
    refine dp_Vi hF hK hN (c_X6_close l D G (mu N) R S N9 E P F L1 L2 L3 (nI n) kp th la (nI len) sp od hs n (xs (i + 1)) _ hμ hM hg rfl hn6) (cwV 1 hts gL_law_X6_close rfl rfl rfl (by decide +kernel) ⟨Nat.le_of_ble_eq_true rfl, Nat.le_of_ble_eq_true rfl⟩) (dp_recv hK hM.1 rfl) hS (fun q hq => mu_ge hN0 hq) [] rfl rfl hl.1 (Nat.le_of_ble_eq_true rfl) dL_law_444 ⟨by show cells + 2 ≤ 643901; omega, by show slots + 12 ≤ 7164402; omega⟩ (fun r9 H1 locs hp hzH1 hkH1 hS => ?_)
    have hDW := hDW.md ho hkH1
    have hLo := hLo.kept (hkH1 _ hLo.lt (A6_al (k := 114) ho (by omega) (by omega)))
    obtain ⟨-, rfl, hMM⟩ := hp.resolve_right (fun q => q.1 h0)
    refine lv_istore (lv' := [(6, .int (fq (rst (upd R (12 + 10 * ix (xs (i + 1))) 1) (ix (xs (i + 1)))))), (5, .int (cClose R (xs (i + 1)))), (0, .ref b), (1, .ref N), (2, .ref (N + 104)), (3, .ref o), (4, .int (nI i))]) hx hb dL_law_447 hl (by decide) rfl (fun ls hl => ?_)
    refine lv_aload_n hx hb dL_law_449 rfl (lv_at hl 4 rfl) ?_
    obtain ⟨E, P, L1, L2, L3, la, sp, od, hs, hM⟩ := hMM
    refine dp_Vi hF hK hN (c_X6_thrown l D G (mu N) (rst (upd R (12 + 10 * ix (xs (i + 1))) 1) (ix (xs (i + 1)))) (msv S R n) N9 E P F L1 L2 L3 (nI (svn n)) kp 0 la (nI len) sp od hs _ hμ hM) (cwV 0 hts gL_law_X6_thrown rfl rfl rfl (by decide +kernel) ⟨Nat.le_of_ble_eq_true rfl, Nat.le_of_ble_eq_true rfl⟩) (dp_recv hK hM.1 rfl) hS nA_i [] rfl rfl hl.1 (Nat.le_of_ble_eq_true rfl) dL_law_450 ⟨by show cells + 2 ≤ 643901; omega, by show slots + 12 ≤ 7164402; omega⟩ (fun rH2 H2 locs hp hzH2 hkH2 hS => ?_)
    obtain ⟨rfl, rfl⟩ := hp
    have hMM := MM.of hM
    refine lv_iload hx hb dL_law_453 (lv_at hl 1 rfl) ?_
    refine lv_icmp_eq (tgt := 460) hx hb dL_law_455 (by decide) (fun c1 => ?_) (fun c1 => absurd h0.symm c1)
    refine lv_iload hx hb dL_law_460 (lv_at hl 1 rfl) ?_
    refine lv_if_ne (tgt := 477) hx hb dL_law_462 (by decide) (fun c2 => absurd c2 (fun q => q h0)) (fun c2 => ?_)
    refine lv_aload_n hx hb dL_law_465 rfl (lv_at hl 5 rfl) ?_
    refine lv_iconst (v := 0) hx hb dL_law_466 (by decide) ?_
    refine dp_lald hx hb hK hLo 4 rfl 0 rfl (by decide) (by decide) dL_law_467 ?_
    rw [ho2]
    refine lv_iload hx hb dL_law_468 (lv_at hl 0 rfl) ?_
    refine lv_i2l hx hb dL_law_470 rfl ?_
    refine W.lcmp hx hb dL_law_471 ?_
    refine lv_if_eq (tgt := 477) hx hb dL_law_472 (by decide) (fun c3 => ?_) (fun c3 => absurd (lg_self _) c3)
    refine lv_goto (tgt := 1574) hx hb dL_law_477 (by decide) ?_
    refine W.widen (k := cells + 4) (n := slots + 24) (by omega) (by omega) ?_
    exact kk _ _ _ hS ⟨(rst (upd R (12 + 10 * ix (xs (i + 1))) 1) (ix (xs (i + 1)))), RS, N9, (msv S R n), F, (svs sv n R), (svn n), len, kp, _, _, m9, hDW, hMM, hLo, (gb_sw hg hbu (nS_0 h0).1 (Or.inr rfl) (Or.inr rfl)).1, (gb_sw hg hbu (nS_0 h0).1 (Or.inr rfl) (Or.inr rfl)).2, (svn_le hn6), hl6, (hsv.save hn6 hg hbu), hks, (by omega)⟩ (lv_sub hl [2, 3, 4, 5, 6] rfl)
  · refine lv_istore (lv' := [(5, .int (cClose R (xs (i + 1)))), (0, .ref b), (1, .ref N), (2, .ref (N + 104)), (3, .ref o), (4, .int (nI i))]) hx hb dL_law_435 hl (by decide) rfl (fun ls hl => ?_)
    refine lv_aload_n hx hb dL_law_437 rfl (lv_at hl 3 rfl) ?_
    refine lv_aload_n hx hb dL_law_438 rfl (lv_at hl 1 rfl) ?_
    refine lv_iload hx hb dL_law_439 (lv_at hl 5 rfl) ?_
    refine lv_iconst (v := 1) hx hb dL_law_441 (by decide) ?_
    refine lv_iadd hx hb dL_law_442 ?_
    rw [nI_1 i]
    refine va_sld hx hb hX hbl (Nat.not_le.mpr hbl) hS (vp_in_nI (n := (i + 1)) (N := L) (by omega) (by omega)) dL_law_443 ?_
    rw [nI_clamp (n := (i + 1)) (by omega)]
    obtain ⟨E, P, L1, L2, L3, la, sp, od, hs, hM⟩ := hMM
    refine dp_Vi hF hK hN (c_X6_close l D G (mu N) R S N9 E P F L1 L2 L3 (nI n) kp th la (nI len) sp od hs n (xs (i + 1)) _ hμ hM hg rfl hn6) (cwV 1 hts gL_law_X6_close rfl rfl rfl (by decide +kernel) ⟨Nat.le_of_ble_eq_true rfl, Nat.le_of_ble_eq_true rfl⟩) (dp_recv hK hM.1 rfl) hS (fun q hq => mu_ge hN0 hq) [] rfl rfl hl.1 (Nat.le_of_ble_eq_true rfl) dL_law_444 ⟨by show cells + 2 ≤ 643901; omega, by show slots + 12 ≤ 7164402; omega⟩ (fun r9 H3 locs hp hzH3 hkH3 hS => ?_)
    have hDW := hDW.md ho hkH3
    have hLo := hLo.kept (hkH3 _ hLo.lt (A6_al (k := 114) ho (by omega) (by omega)))
    obtain ⟨-, hMM⟩ := hp.resolve_left (fun q => h0 q.1)
    refine lv_istore (lv' := [(6, .int r9), (5, .int (cClose R (xs (i + 1)))), (0, .ref b), (1, .ref N), (2, .ref (N + 104)), (3, .ref o), (4, .int (nI i))]) hx hb dL_law_447 hl (by decide) rfl (fun ls hl => ?_)
    refine lv_aload_n hx hb dL_law_449 rfl (lv_at hl 4 rfl) ?_
    obtain ⟨E, P, L1, L2, L3, la, sp, od, hs, hM⟩ := hMM
    refine dp_Vi hF hK hN (c_X6_thrown l D G (mu N) R S N9 E P F L1 L2 L3 (nI n) kp (cClose R (xs (i + 1))) la (nI len) sp od hs _ hμ hM) (cwV 0 hts gL_law_X6_thrown rfl rfl rfl (by decide +kernel) ⟨Nat.le_of_ble_eq_true rfl, Nat.le_of_ble_eq_true rfl⟩) (dp_recv hK hM.1 rfl) hS nA_i [] rfl rfl hl.1 (Nat.le_of_ble_eq_true rfl) dL_law_450 ⟨by show cells + 2 ≤ 643901; omega, by show slots + 12 ≤ 7164402; omega⟩ (fun rH4 H4 locs hp hzH4 hkH4 hS => ?_)
    obtain ⟨rfl, rfl⟩ := hp
    have hMM := MM.of hM
    refine lv_iload hx hb dL_law_453 (lv_at hl 1 rfl) ?_
    refine lv_icmp_eq (tgt := 460) hx hb dL_law_455 (by decide) (fun c4 => ?_) (fun c4 => absurd rfl c4)
    refine lv_iload hx hb dL_law_460 (lv_at hl 1 rfl) ?_
    refine lv_if_ne (tgt := 477) hx hb dL_law_462 (by decide) (fun c5 => ?_) (fun c5 => absurd c5 h0)
    refine lv_goto (tgt := 1574) hx hb dL_law_477 (by decide) ?_
    refine W.widen (k := cells + 4) (n := slots + 24) (by omega) (by omega) ?_
    exact kk _ _ _ hS ⟨R, RS, N9, S, F, sv, n, len, kp, _, _, m9, hDW, hMM, hLo, hg, hbu, hn6, hl6, hsv, hks, (by omega)⟩ (lv_sub hl [2, 3, 4, 5, 6] rfl)

set_option maxHeartbeats 1600000 in
set_option maxRecDepth 100000 in
theorem K_open {p : Program} {l : Launch} {e : Env} {s : State} {m : MethodId} {below : List Frame} {meth : Method} {c : Code} {D : va_G} {G : Nat → ClassId} {b N o L c9 : Nat} {xs : Nat → Int32} {Q : State → Prop} {H : Heap} {locs : List Loc} {cells slots : Nat} {ls : Array Slot} (C0 : LC p l s m b c D G N o L xs) (hcs : cells + 4 ≤ 643901 ∧ slots + 24 ≤ 7164402) (hS : va_S (fun q => s.heap.size ≤ q) s.heap H locs) (hI : LInv D G N o c9 H) (hc9 : c9 < 512) (i : Nat) (hi : i + 4 ≤ L) (hl : lv_has ls 9 [(0, .ref b), (1, .ref N), (2, .ref (N + 104)), (3, .ref o), (4, .int (nI i))]) (kk : ∀ (H1 : Heap) (locs1 : List Loc) (ls1 : Array Slot), va_S (fun q => s.heap.size ≤ q) s.heap H1 locs1 → LInv D G N o (c9 + 1) H1 → lv_has ls1 9 [(0, .ref b), (1, .ref N), (2, .ref (N + 104)), (3, .ref o), (4, .int (nI i))] → W p l e room_1 s m #[Value.ref b] below meth c H1 locs1 (cells + 4) (slots + 24) Q (F0 m 1574 ls1 [])) : W p l e room_1 s m #[Value.ref b] below meth c H locs cells slots Q (F0 m 480 ls []) := by
  obtain ⟨hx, hb, hml, hown, hts, hK, hN, hE, hZ, hC, hl9, hN0, ho, hX, hbl, hL⟩ := C0
  obtain ⟨R, RS, N9, S, F, sv, n, len, kp, th, oo, m9, hDW, hMM, hLo, hg, hbu, hn6, hl6, hsv, hks, hm9⟩ := hI
  have hF : CallFix p m c cL_law 9 s #[Value.ref b] wsL_law RL := ⟨hx, hb, hml, hown, hts⟩
  have hα : inj 115 (al N o) := al_inj ho
  have hμ : inj 10 (mu N) := mu_inj N
  refine lv_aload_n hx hb dL_law_480 rfl (lv_at hl 1 rfl) ?_
  refine lv_aload_n hx hb dL_law_481 rfl (lv_at hl 0 rfl) ?_
  refine lv_iload hx hb dL_law_482 (lv_at hl 4 rfl) ?_
  refine lv_iconst (v := 1) hx hb dL_law_484 (by decide) ?_
  refine lv_iadd hx hb dL_law_485 ?_
  rw [nI_1 i]
  refine va_sld hx hb hX hbl (Nat.not_le.mpr hbl) hS (vp_in_nI (n := (i + 1)) (N := L) (by omega) (by omega)) dL_law_486 ?_
  rw [nI_clamp (n := (i + 1)) (by omega)]
  refine lv_aload_n hx hb dL_law_487 rfl (lv_at hl 3 rfl) ?_
  refine dpl_Si hF hK hN hE hZ hC (c_L_open l hl9 D G (al N o) R RS kp sv n F len oo (xs (i + 1)) _ hα hDW hLo hg hn6 hl6) (vx_cwSW 3 hts gL_law_L_open rfl rfl rfl (by decide +kernel) ⟨Nat.le_of_ble_eq_true rfl, Nat.le_of_ble_eq_true rfl⟩) hS (fun q hq => al_ge hN0 ho hq) [] rfl rfl hl.1 (Nat.le_of_ble_eq_true rfl) dL_law_488 ⟨by show cells + 2 ≤ 643901; omega, by show slots + 12 ≤ 7164402; omega⟩ (fun r1 H1 locs hp hz1 hk1 hS => ?_)
  have hMM := hMM.cl ho (fun q hq => hq) hk1
  obtain ⟨rfl, hp1⟩ := hp
  rcases hp1 with ⟨h0, hDW, o2, ho2, hLo⟩ | ⟨h0, hDW, hLo⟩
  · refine lv_istore (lv' := [(5, .int (cOpen R (xs (i + 1)))), (0, .ref b), (1, .ref N), (2, .ref (N + 104)), (3, .ref o), (4, .int (nI i))]) hx hb dL_law_491 hl (by decide) rfl (fun ls hl => ?_)
    refine lv_aload_n hx hb dL_law_493 rfl (lv_at hl 3 rfl) ?_
    refine lv_aload_n hx hb dL_law_494 rfl (lv_at hl 1 rfl) ?_
    refine lv_iload hx hb dL_law_495 (lv_at hl 5 rfl) ?_
    refine lv_iconst (v := 1) hx hb dL_law_497 (by decide) ?_
    refine lv_iadd hx hb dL_law_498 ?_
    rw [nI_1 i]
    refine va_sld hx hb hX hbl (Nat.not_le.mpr hbl) hS (vp_in_nI (n := (i + 1)) (N := L) (by omega) (by omega)) dL_law_499 ?_
    rw [nI_clamp (n := (i + 1)) (by omega)]
    obtain ⟨E, P, L1, L2, L3, la, sp, od, hs, hM⟩ := hMM
    refine dp_Vi hF hK hN (c_X6_open l D G (mu N) R S N9 E P F L1 L2 L3 (nI n) kp th la (nI len) sp od hs n (xs (i + 1)) _ hμ hM hg rfl hn6) (cwV 1 hts gL_law_X6_open rfl rfl rfl (by decide +kernel) ⟨Nat.le_of_ble_eq_true rfl, Nat.le_of_ble_eq_true rfl⟩) (dp_recv hK hM.1 rfl) hS (fun q hq => mu_ge hN0 hq) [] rfl rfl hl.1 (Nat.le_of_ble_eq_true rfl) dL_law_500 ⟨by show cells + 2 ≤ 643901; omega, by show slots + 12 ≤ 7164402; omega⟩ (fun r9 H1 locs hp hzH1 hkH1 hS => ?_)
    have hDW := hDW.md ho hkH1
    have hLo := hLo.kept (hkH1 _ hLo.lt (A6_al (k := 114) ho (by omega) (by omega)))
    obtain ⟨-, rfl, hMM⟩ := hp.resolve_right (fun q => q.1 h0)
    refine lv_istore (lv' := [(6, .int (fq (rst (upd R (12 + 10 * ix (xs (i + 1))) 0) (ix (xs (i + 1)))))), (5, .int (cOpen R (xs (i + 1)))), (0, .ref b), (1, .ref N), (2, .ref (N + 104)), (3, .ref o), (4, .int (nI i))]) hx hb dL_law_503 hl (by decide) rfl (fun ls hl => ?_)
    refine lv_aload_n hx hb dL_law_505 rfl (lv_at hl 4 rfl) ?_
    obtain ⟨E, P, L1, L2, L3, la, sp, od, hs, hM⟩ := hMM
    refine dp_Vi hF hK hN (c_X6_thrown l D G (mu N) (rst (upd R (12 + 10 * ix (xs (i + 1))) 0) (ix (xs (i + 1)))) (msv S R n) N9 E P F L1 L2 L3 (nI (svn n)) kp 0 la (nI len) sp od hs _ hμ hM) (cwV 0 hts gL_law_X6_thrown rfl rfl rfl (by decide +kernel) ⟨Nat.le_of_ble_eq_true rfl, Nat.le_of_ble_eq_true rfl⟩) (dp_recv hK hM.1 rfl) hS nA_i [] rfl rfl hl.1 (Nat.le_of_ble_eq_true rfl) dL_law_506 ⟨by show cells + 2 ≤ 643901; omega, by show slots + 12 ≤ 7164402; omega⟩ (fun rH2 H2 locs hp hzH2 hkH2 hS => ?_)
    obtain ⟨rfl, rfl⟩ := hp
    have hMM := MM.of hM
    refine lv_iload hx hb dL_law_509 (lv_at hl 1 rfl) ?_
    refine lv_icmp_eq (tgt := 516) hx hb dL_law_511 (by decide) (fun c1 => ?_) (fun c1 => absurd h0.symm c1)
    refine lv_iload hx hb dL_law_516 (lv_at hl 1 rfl) ?_
    refine lv_if_ne (tgt := 533) hx hb dL_law_518 (by decide) (fun c2 => absurd c2 (fun q => q h0)) (fun c2 => ?_)
    refine lv_aload_n hx hb dL_law_521 rfl (lv_at hl 5 rfl) ?_
    refine lv_iconst (v := 0) hx hb dL_law_522 (by decide) ?_
    refine dp_lald hx hb hK hLo 4 rfl 0 rfl (by decide) (by decide) dL_law_523 ?_
    rw [ho2]
    refine lv_iload hx hb dL_law_524 (lv_at hl 0 rfl) ?_
    refine lv_i2l hx hb dL_law_526 rfl ?_
    refine W.lcmp hx hb dL_law_527 ?_
    refine lv_if_eq (tgt := 533) hx hb dL_law_528 (by decide) (fun c3 => ?_) (fun c3 => absurd (lg_self _) c3)
    refine lv_goto (tgt := 1574) hx hb dL_law_533 (by decide) ?_
    refine W.widen (k := cells + 4) (n := slots + 24) (by omega) (by omega) ?_
    exact kk _ _ _ hS ⟨(rst (upd R (12 + 10 * ix (xs (i + 1))) 0) (ix (xs (i + 1)))), RS, N9, (msv S R n), F, (svs sv n R), (svn n), len, kp, _, _, m9, hDW, hMM, hLo, (gb_sw hg hbu (nS_0 h0).1 (Or.inr rfl) (Or.inl rfl)).1, (gb_sw hg hbu (nS_0 h0).1 (Or.inr rfl) (Or.inl rfl)).2, (svn_le hn6), hl6, (hsv.save hn6 hg hbu), hks, (by omega)⟩ (lv_sub hl [2, 3, 4, 5, 6] rfl)
  · refine lv_istore (lv' := [(5, .int (cOpen R (xs (i + 1)))), (0, .ref b), (1, .ref N), (2, .ref (N + 104)), (3, .ref o), (4, .int (nI i))]) hx hb dL_law_491 hl (by decide) rfl (fun ls hl => ?_)
    refine lv_aload_n hx hb dL_law_493 rfl (lv_at hl 3 rfl) ?_
    refine lv_aload_n hx hb dL_law_494 rfl (lv_at hl 1 rfl) ?_
    refine lv_iload hx hb dL_law_495 (lv_at hl 5 rfl) ?_
    refine lv_iconst (v := 1) hx hb dL_law_497 (by decide) ?_
    refine lv_iadd hx hb dL_law_498 ?_
    rw [nI_1 i]
    refine va_sld hx hb hX hbl (Nat.not_le.mpr hbl) hS (vp_in_nI (n := (i + 1)) (N := L) (by omega) (by omega)) dL_law_499 ?_
    rw [nI_clamp (n := (i + 1)) (by omega)]
    obtain ⟨E, P, L1, L2, L3, la, sp, od, hs, hM⟩ := hMM
    refine dp_Vi hF hK hN (c_X6_open l D G (mu N) R S N9 E P F L1 L2 L3 (nI n) kp th la (nI len) sp od hs n (xs (i + 1)) _ hμ hM hg rfl hn6) (cwV 1 hts gL_law_X6_open rfl rfl rfl (by decide +kernel) ⟨Nat.le_of_ble_eq_true rfl, Nat.le_of_ble_eq_true rfl⟩) (dp_recv hK hM.1 rfl) hS (fun q hq => mu_ge hN0 hq) [] rfl rfl hl.1 (Nat.le_of_ble_eq_true rfl) dL_law_500 ⟨by show cells + 2 ≤ 643901; omega, by show slots + 12 ≤ 7164402; omega⟩ (fun r9 H3 locs hp hzH3 hkH3 hS => ?_)
    have hDW := hDW.md ho hkH3
    have hLo := hLo.kept (hkH3 _ hLo.lt (A6_al (k := 114) ho (by omega) (by omega)))
    obtain ⟨-, hMM⟩ := hp.resolve_left (fun q => h0 q.1)
    refine lv_istore (lv' := [(6, .int r9), (5, .int (cOpen R (xs (i + 1)))), (0, .ref b), (1, .ref N), (2, .ref (N + 104)), (3, .ref o), (4, .int (nI i))]) hx hb dL_law_503 hl (by decide) rfl (fun ls hl => ?_)
    refine lv_aload_n hx hb dL_law_505 rfl (lv_at hl 4 rfl) ?_
    obtain ⟨E, P, L1, L2, L3, la, sp, od, hs, hM⟩ := hMM
    refine dp_Vi hF hK hN (c_X6_thrown l D G (mu N) R S N9 E P F L1 L2 L3 (nI n) kp (cOpen R (xs (i + 1))) la (nI len) sp od hs _ hμ hM) (cwV 0 hts gL_law_X6_thrown rfl rfl rfl (by decide +kernel) ⟨Nat.le_of_ble_eq_true rfl, Nat.le_of_ble_eq_true rfl⟩) (dp_recv hK hM.1 rfl) hS nA_i [] rfl rfl hl.1 (Nat.le_of_ble_eq_true rfl) dL_law_506 ⟨by show cells + 2 ≤ 643901; omega, by show slots + 12 ≤ 7164402; omega⟩ (fun rH4 H4 locs hp hzH4 hkH4 hS => ?_)
    obtain ⟨rfl, rfl⟩ := hp
    have hMM := MM.of hM
    refine lv_iload hx hb dL_law_509 (lv_at hl 1 rfl) ?_
    refine lv_icmp_eq (tgt := 516) hx hb dL_law_511 (by decide) (fun c4 => ?_) (fun c4 => absurd rfl c4)
    refine lv_iload hx hb dL_law_516 (lv_at hl 1 rfl) ?_
    refine lv_if_ne (tgt := 533) hx hb dL_law_518 (by decide) (fun c5 => ?_) (fun c5 => absurd c5 h0)
    refine lv_goto (tgt := 1574) hx hb dL_law_533 (by decide) ?_
    refine W.widen (k := cells + 4) (n := slots + 24) (by omega) (by omega) ?_
    exact kk _ _ _ hS ⟨R, RS, N9, S, F, sv, n, len, kp, _, _, m9, hDW, hMM, hLo, hg, hbu, hn6, hl6, hsv, hks, (by omega)⟩ (lv_sub hl [2, 3, 4, 5, 6] rfl)

set_option maxHeartbeats 1600000 in
set_option maxRecDepth 100000 in
theorem K_load {p : Program} {l : Launch} {e : Env} {s : State} {m : MethodId} {below : List Frame} {meth : Method} {c : Code} {D : va_G} {G : Nat → ClassId} {b N o L c9 : Nat} {xs : Nat → Int32} {Q : State → Prop} {H : Heap} {locs : List Loc} {cells slots : Nat} {ls : Array Slot} (C0 : LC p l s m b c D G N o L xs) (hcs : cells + 4 ≤ 643901 ∧ slots + 24 ≤ 7164402) (hS : va_S (fun q => s.heap.size ≤ q) s.heap H locs) (hI : LInv D G N o c9 H) (hc9 : c9 < 512) (i : Nat) (hi : i + 4 ≤ L) (hl : lv_has ls 9 [(0, .ref b), (1, .ref N), (2, .ref (N + 104)), (3, .ref o), (4, .int (nI i))]) (kk : ∀ (H1 : Heap) (locs1 : List Loc) (ls1 : Array Slot), va_S (fun q => s.heap.size ≤ q) s.heap H1 locs1 → LInv D G N o (c9 + 1) H1 → lv_has ls1 9 [(0, .ref b), (1, .ref N), (2, .ref (N + 104)), (3, .ref o), (4, .int (nI i))] → W p l e room_1 s m #[Value.ref b] below meth c H1 locs1 (cells + 4) (slots + 24) Q (F0 m 1574 ls1 [])) : W p l e room_1 s m #[Value.ref b] below meth c H locs cells slots Q (F0 m 536 ls []) := by
  obtain ⟨hx, hb, hml, hown, hts, hK, hN, hE, hZ, hC, hl9, hN0, ho, hX, hbl, hL⟩ := C0
  obtain ⟨R, RS, N9, S, F, sv, n, len, kp, th, oo, m9, hDW, hMM, hLo, hg, hbu, hn6, hl6, hsv, hks, hm9⟩ := hI
  have hF : CallFix p m c cL_law 9 s #[Value.ref b] wsL_law RL := ⟨hx, hb, hml, hown, hts⟩
  have hα : inj 115 (al N o) := al_inj ho
  have hμ : inj 10 (mu N) := mu_inj N
  refine lv_aload_n hx hb dL_law_536 rfl (lv_at hl 1 rfl) ?_
  refine lv_aload_n hx hb dL_law_537 rfl (lv_at hl 0 rfl) ?_
  refine lv_iload hx hb dL_law_538 (lv_at hl 4 rfl) ?_
  refine lv_iconst (v := 1) hx hb dL_law_540 (by decide) ?_
  refine lv_iadd hx hb dL_law_541 ?_
  rw [nI_1 i]
  refine va_sld hx hb hX hbl (Nat.not_le.mpr hbl) hS (vp_in_nI (n := (i + 1)) (N := L) (by omega) (by omega)) dL_law_542 ?_
  rw [nI_clamp (n := (i + 1)) (by omega)]
  refine lv_aload_n hx hb dL_law_543 rfl (lv_at hl 0 rfl) ?_
  refine lv_iload hx hb dL_law_544 (lv_at hl 4 rfl) ?_
  refine lv_iconst (v := 2) hx hb dL_law_546 (by decide) ?_
  refine lv_iadd hx hb dL_law_547 ?_
  rw [nI_2 i]
  refine va_sld hx hb hX hbl (Nat.not_le.mpr hbl) hS (vp_in_nI (n := (i + 2)) (N := L) (by omega) (by omega)) dL_law_548 ?_
  rw [nI_clamp (n := (i + 2)) (by omega)]
  refine lv_aload_n hx hb dL_law_549 rfl (lv_at hl 3 rfl) ?_
  refine dpl_Si hF hK hN hE hZ hC (c_L_load l hl9 D G (al N o) R RS kp sv n F len oo (xs (i + 1)) (xs (i + 2)) _ hα hDW hLo hg hn6 hl6) (vx_cwSW 4 hts gL_law_L_load rfl rfl rfl (by decide +kernel) ⟨Nat.le_of_ble_eq_true rfl, Nat.le_of_ble_eq_true rfl⟩) hS (fun q hq => al_ge hN0 ho hq) [] rfl rfl hl.1 (Nat.le_of_ble_eq_true rfl) dL_law_550 ⟨by show cells + 2 ≤ 643901; omega, by show slots + 12 ≤ 7164402; omega⟩ (fun r1 H1 locs hp hz1 hk1 hS => ?_)
  have hMM := hMM.cl ho (fun q hq => hq) hk1
  obtain ⟨rfl, hp1⟩ := hp
  rcases hp1 with ⟨h0, hDW, o2, ho2, hLo⟩ | ⟨h0, hDW, hLo⟩
  · refine lv_istore (lv' := [(5, .int (cLoad (xs (i + 1)) (xs (i + 2)))), (0, .ref b), (1, .ref N), (2, .ref (N + 104)), (3, .ref o), (4, .int (nI i))]) hx hb dL_law_553 hl (by decide) rfl (fun ls hl => ?_)
    refine lv_aload_n hx hb dL_law_555 rfl (lv_at hl 3 rfl) ?_
    refine lv_aload_n hx hb dL_law_556 rfl (lv_at hl 1 rfl) ?_
    refine lv_iload hx hb dL_law_557 (lv_at hl 5 rfl) ?_
    refine lv_iconst (v := 1) hx hb dL_law_559 (by decide) ?_
    refine lv_iadd hx hb dL_law_560 ?_
    rw [nI_1 i]
    refine va_sld hx hb hX hbl (Nat.not_le.mpr hbl) hS (vp_in_nI (n := (i + 1)) (N := L) (by omega) (by omega)) dL_law_561 ?_
    rw [nI_clamp (n := (i + 1)) (by omega)]
    refine lv_aload_n hx hb dL_law_562 rfl (lv_at hl 1 rfl) ?_
    refine lv_iload hx hb dL_law_563 (lv_at hl 5 rfl) ?_
    refine lv_iconst (v := 2) hx hb dL_law_565 (by decide) ?_
    refine lv_iadd hx hb dL_law_566 ?_
    rw [nI_2 i]
    refine va_sld hx hb hX hbl (Nat.not_le.mpr hbl) hS (vp_in_nI (n := (i + 2)) (N := L) (by omega) (by omega)) dL_law_567 ?_
    rw [nI_clamp (n := (i + 2)) (by omega)]
    obtain ⟨E, P, L1, L2, L3, la, sp, od, hs, hM⟩ := hMM
    refine dp_Vi hF hK hN (c_X6_load_ l D G (mu N) R S N9 E P F L1 L2 L3 (nI n) kp th la (nI len) sp od hs n (xs (i + 1)) (xs (i + 2)) _ hμ hM hg rfl hn6) (cwV 2 hts gL_law_X6_load_ rfl rfl rfl (by decide +kernel) ⟨Nat.le_of_ble_eq_true rfl, Nat.le_of_ble_eq_true rfl⟩) (dp_recv hK hM.1 rfl) hS (fun q hq => mu_ge hN0 hq) [] rfl rfl hl.1 (Nat.le_of_ble_eq_true rfl) dL_law_568 ⟨by show cells + 2 ≤ 643901; omega, by show slots + 12 ≤ 7164402; omega⟩ (fun r9 H1 locs hp hzH1 hkH1 hS => ?_)
    have hDW := hDW.md ho hkH1
    have hLo := hLo.kept (hkH1 _ hLo.lt (A6_al (k := 114) ho (by omega) (by omega)))
    obtain ⟨-, rfl, hMM⟩ := hp.resolve_right (fun q => q.1 h0)
    refine lv_istore (lv' := [(6, .int (R (38 + 3 * ix (xs (i + 1))))), (5, .int (cLoad (xs (i + 1)) (xs (i + 2)))), (0, .ref b), (1, .ref N), (2, .ref (N + 104)), (3, .ref o), (4, .int (nI i))]) hx hb dL_law_571 hl (by decide) rfl (fun ls hl => ?_)
    refine lv_aload_n hx hb dL_law_573 rfl (lv_at hl 4 rfl) ?_
    obtain ⟨E, P, L1, L2, L3, la, sp, od, hs, hM⟩ := hMM
    refine dp_Vi hF hK hN (c_X6_thrown l D G (mu N) (upd R (38 + 3 * ix (xs (i + 1))) (xs (i + 2))) (msv S R n) N9 E P F L1 L2 L3 (nI (svn n)) kp 0 la (nI len) sp od hs _ hμ hM) (cwV 0 hts gL_law_X6_thrown rfl rfl rfl (by decide +kernel) ⟨Nat.le_of_ble_eq_true rfl, Nat.le_of_ble_eq_true rfl⟩) (dp_recv hK hM.1 rfl) hS nA_i [] rfl rfl hl.1 (Nat.le_of_ble_eq_true rfl) dL_law_574 ⟨by show cells + 2 ≤ 643901; omega, by show slots + 12 ≤ 7164402; omega⟩ (fun rH2 H2 locs hp hzH2 hkH2 hS => ?_)
    obtain ⟨rfl, rfl⟩ := hp
    have hMM := MM.of hM
    refine lv_iload hx hb dL_law_577 (lv_at hl 1 rfl) ?_
    refine lv_icmp_eq (tgt := 584) hx hb dL_law_579 (by decide) (fun c1 => ?_) (fun c1 => absurd h0.symm c1)
    refine lv_iload hx hb dL_law_584 (lv_at hl 1 rfl) ?_
    refine lv_if_ne (tgt := 601) hx hb dL_law_586 (by decide) (fun c2 => absurd c2 (fun q => q h0)) (fun c2 => ?_)
    refine lv_aload_n hx hb dL_law_589 rfl (lv_at hl 5 rfl) ?_
    refine lv_iconst (v := 0) hx hb dL_law_590 (by decide) ?_
    refine dp_lald hx hb hK hLo 4 rfl 0 rfl (by decide) (by decide) dL_law_591 ?_
    rw [ho2]
    refine lv_iload hx hb dL_law_592 (lv_at hl 0 rfl) ?_
    refine lv_i2l hx hb dL_law_594 rfl ?_
    refine W.lcmp hx hb dL_law_595 ?_
    refine lv_if_eq (tgt := 601) hx hb dL_law_596 (by decide) (fun c3 => ?_) (fun c3 => absurd (lg_self _) c3)
    refine lv_goto (tgt := 1574) hx hb dL_law_601 (by decide) ?_
    refine W.widen (k := cells + 4) (n := slots + 24) (by omega) (by omega) ?_
    exact kk _ _ _ hS ⟨(upd R (38 + 3 * ix (xs (i + 1))) (xs (i + 2))), RS, N9, (msv S R n), F, (svs sv n R), (svn n), len, kp, _, _, m9, hDW, hMM, hLo, (gb_load hg hbu h0).1, (gb_load hg hbu h0).2, (svn_le hn6), hl6, (hsv.save hn6 hg hbu), hks, (by omega)⟩ (lv_sub hl [2, 3, 4, 5, 6] rfl)
  · refine lv_istore (lv' := [(5, .int (cLoad (xs (i + 1)) (xs (i + 2)))), (0, .ref b), (1, .ref N), (2, .ref (N + 104)), (3, .ref o), (4, .int (nI i))]) hx hb dL_law_553 hl (by decide) rfl (fun ls hl => ?_)
    refine lv_aload_n hx hb dL_law_555 rfl (lv_at hl 3 rfl) ?_
    refine lv_aload_n hx hb dL_law_556 rfl (lv_at hl 1 rfl) ?_
    refine lv_iload hx hb dL_law_557 (lv_at hl 5 rfl) ?_
    refine lv_iconst (v := 1) hx hb dL_law_559 (by decide) ?_
    refine lv_iadd hx hb dL_law_560 ?_
    rw [nI_1 i]
    refine va_sld hx hb hX hbl (Nat.not_le.mpr hbl) hS (vp_in_nI (n := (i + 1)) (N := L) (by omega) (by omega)) dL_law_561 ?_
    rw [nI_clamp (n := (i + 1)) (by omega)]
    refine lv_aload_n hx hb dL_law_562 rfl (lv_at hl 1 rfl) ?_
    refine lv_iload hx hb dL_law_563 (lv_at hl 5 rfl) ?_
    refine lv_iconst (v := 2) hx hb dL_law_565 (by decide) ?_
    refine lv_iadd hx hb dL_law_566 ?_
    rw [nI_2 i]
    refine va_sld hx hb hX hbl (Nat.not_le.mpr hbl) hS (vp_in_nI (n := (i + 2)) (N := L) (by omega) (by omega)) dL_law_567 ?_
    rw [nI_clamp (n := (i + 2)) (by omega)]
    obtain ⟨E, P, L1, L2, L3, la, sp, od, hs, hM⟩ := hMM
    refine dp_Vi hF hK hN (c_X6_load_ l D G (mu N) R S N9 E P F L1 L2 L3 (nI n) kp th la (nI len) sp od hs n (xs (i + 1)) (xs (i + 2)) _ hμ hM hg rfl hn6) (cwV 2 hts gL_law_X6_load_ rfl rfl rfl (by decide +kernel) ⟨Nat.le_of_ble_eq_true rfl, Nat.le_of_ble_eq_true rfl⟩) (dp_recv hK hM.1 rfl) hS (fun q hq => mu_ge hN0 hq) [] rfl rfl hl.1 (Nat.le_of_ble_eq_true rfl) dL_law_568 ⟨by show cells + 2 ≤ 643901; omega, by show slots + 12 ≤ 7164402; omega⟩ (fun r9 H3 locs hp hzH3 hkH3 hS => ?_)
    have hDW := hDW.md ho hkH3
    have hLo := hLo.kept (hkH3 _ hLo.lt (A6_al (k := 114) ho (by omega) (by omega)))
    obtain ⟨-, hMM⟩ := hp.resolve_left (fun q => h0 q.1)
    refine lv_istore (lv' := [(6, .int r9), (5, .int (cLoad (xs (i + 1)) (xs (i + 2)))), (0, .ref b), (1, .ref N), (2, .ref (N + 104)), (3, .ref o), (4, .int (nI i))]) hx hb dL_law_571 hl (by decide) rfl (fun ls hl => ?_)
    refine lv_aload_n hx hb dL_law_573 rfl (lv_at hl 4 rfl) ?_
    obtain ⟨E, P, L1, L2, L3, la, sp, od, hs, hM⟩ := hMM
    refine dp_Vi hF hK hN (c_X6_thrown l D G (mu N) R S N9 E P F L1 L2 L3 (nI n) kp (cLoad (xs (i + 1)) (xs (i + 2))) la (nI len) sp od hs _ hμ hM) (cwV 0 hts gL_law_X6_thrown rfl rfl rfl (by decide +kernel) ⟨Nat.le_of_ble_eq_true rfl, Nat.le_of_ble_eq_true rfl⟩) (dp_recv hK hM.1 rfl) hS nA_i [] rfl rfl hl.1 (Nat.le_of_ble_eq_true rfl) dL_law_574 ⟨by show cells + 2 ≤ 643901; omega, by show slots + 12 ≤ 7164402; omega⟩ (fun rH4 H4 locs hp hzH4 hkH4 hS => ?_)
    obtain ⟨rfl, rfl⟩ := hp
    have hMM := MM.of hM
    refine lv_iload hx hb dL_law_577 (lv_at hl 1 rfl) ?_
    refine lv_icmp_eq (tgt := 584) hx hb dL_law_579 (by decide) (fun c4 => ?_) (fun c4 => absurd rfl c4)
    refine lv_iload hx hb dL_law_584 (lv_at hl 1 rfl) ?_
    refine lv_if_ne (tgt := 601) hx hb dL_law_586 (by decide) (fun c5 => ?_) (fun c5 => absurd c5 h0)
    refine lv_goto (tgt := 1574) hx hb dL_law_601 (by decide) ?_
    refine W.widen (k := cells + 4) (n := slots + 24) (by omega) (by omega) ?_
    exact kk _ _ _ hS ⟨R, RS, N9, S, F, sv, n, len, kp, _, _, m9, hDW, hMM, hLo, hg, hbu, hn6, hl6, hsv, hks, (by omega)⟩ (lv_sub hl [2, 3, 4, 5, 6] rfl)

set_option maxHeartbeats 1600000 in
set_option maxRecDepth 100000 in
theorem K_feeder {p : Program} {l : Launch} {e : Env} {s : State} {m : MethodId} {below : List Frame} {meth : Method} {c : Code} {D : va_G} {G : Nat → ClassId} {b N o L c9 : Nat} {xs : Nat → Int32} {Q : State → Prop} {H : Heap} {locs : List Loc} {cells slots : Nat} {ls : Array Slot} (C0 : LC p l s m b c D G N o L xs) (hcs : cells + 4 ≤ 643901 ∧ slots + 24 ≤ 7164402) (hS : va_S (fun q => s.heap.size ≤ q) s.heap H locs) (hI : LInv D G N o c9 H) (hc9 : c9 < 512) (i : Nat) (hi : i + 4 ≤ L) (hl : lv_has ls 9 [(0, .ref b), (1, .ref N), (2, .ref (N + 104)), (3, .ref o), (4, .int (nI i))]) (kk : ∀ (H1 : Heap) (locs1 : List Loc) (ls1 : Array Slot), va_S (fun q => s.heap.size ≤ q) s.heap H1 locs1 → LInv D G N o (c9 + 1) H1 → lv_has ls1 9 [(0, .ref b), (1, .ref N), (2, .ref (N + 104)), (3, .ref o), (4, .int (nI i))] → W p l e room_1 s m #[Value.ref b] below meth c H1 locs1 (cells + 4) (slots + 24) Q (F0 m 1574 ls1 [])) : W p l e room_1 s m #[Value.ref b] below meth c H locs cells slots Q (F0 m 604 ls []) := by
  obtain ⟨hx, hb, hml, hown, hts, hK, hN, hE, hZ, hC, hl9, hN0, ho, hX, hbl, hL⟩ := C0
  obtain ⟨R, RS, N9, S, F, sv, n, len, kp, th, oo, m9, hDW, hMM, hLo, hg, hbu, hn6, hl6, hsv, hks, hm9⟩ := hI
  have hF : CallFix p m c cL_law 9 s #[Value.ref b] wsL_law RL := ⟨hx, hb, hml, hown, hts⟩
  have hα : inj 115 (al N o) := al_inj ho
  have hμ : inj 10 (mu N) := mu_inj N
  refine lv_aload_n hx hb dL_law_604 rfl (lv_at hl 1 rfl) ?_
  refine lv_aload_n hx hb dL_law_605 rfl (lv_at hl 0 rfl) ?_
  refine lv_iload hx hb dL_law_606 (lv_at hl 4 rfl) ?_
  refine lv_iconst (v := 1) hx hb dL_law_608 (by decide) ?_
  refine lv_iadd hx hb dL_law_609 ?_
  rw [nI_1 i]
  refine va_sld hx hb hX hbl (Nat.not_le.mpr hbl) hS (vp_in_nI (n := (i + 1)) (N := L) (by omega) (by omega)) dL_law_610 ?_
  rw [nI_clamp (n := (i + 1)) (by omega)]
  refine lv_aload_n hx hb dL_law_611 rfl (lv_at hl 0 rfl) ?_
  refine lv_iload hx hb dL_law_612 (lv_at hl 4 rfl) ?_
  refine lv_iconst (v := 2) hx hb dL_law_614 (by decide) ?_
  refine lv_iadd hx hb dL_law_615 ?_
  rw [nI_2 i]
  refine va_sld hx hb hX hbl (Nat.not_le.mpr hbl) hS (vp_in_nI (n := (i + 2)) (N := L) (by omega) (by omega)) dL_law_616 ?_
  rw [nI_clamp (n := (i + 2)) (by omega)]
  refine lv_aload_n hx hb dL_law_617 rfl (lv_at hl 3 rfl) ?_
  refine dpl_Si hF hK hN hE hZ hC (c_L_feeder l hl9 D G (al N o) R RS kp sv n F len oo (xs (i + 1)) (xs (i + 2)) _ hα hDW hLo hg hn6 hl6) (vx_cwSW 4 hts gL_law_L_feeder rfl rfl rfl (by decide +kernel) ⟨Nat.le_of_ble_eq_true rfl, Nat.le_of_ble_eq_true rfl⟩) hS (fun q hq => al_ge hN0 ho hq) [] rfl rfl hl.1 (Nat.le_of_ble_eq_true rfl) dL_law_618 ⟨by show cells + 2 ≤ 643901; omega, by show slots + 12 ≤ 7164402; omega⟩ (fun r1 H1 locs hp hz1 hk1 hS => ?_)
  have hMM := hMM.cl ho (fun q hq => hq) hk1
  obtain ⟨rfl, hp1⟩ := hp
  rcases hp1 with ⟨h0, hDW, o2, ho2, hLo⟩ | ⟨h0, hDW, hLo⟩
  · refine lv_istore (lv' := [(5, .int (cFeed (xs (i + 1)) (xs (i + 2)))), (0, .ref b), (1, .ref N), (2, .ref (N + 104)), (3, .ref o), (4, .int (nI i))]) hx hb dL_law_621 hl (by decide) rfl (fun ls hl => ?_)
    refine lv_aload_n hx hb dL_law_623 rfl (lv_at hl 3 rfl) ?_
    refine lv_aload_n hx hb dL_law_624 rfl (lv_at hl 1 rfl) ?_
    refine lv_iload hx hb dL_law_625 (lv_at hl 5 rfl) ?_
    refine lv_iconst (v := 1) hx hb dL_law_627 (by decide) ?_
    refine lv_iadd hx hb dL_law_628 ?_
    rw [nI_1 i]
    refine va_sld hx hb hX hbl (Nat.not_le.mpr hbl) hS (vp_in_nI (n := (i + 1)) (N := L) (by omega) (by omega)) dL_law_629 ?_
    rw [nI_clamp (n := (i + 1)) (by omega)]
    refine lv_aload_n hx hb dL_law_630 rfl (lv_at hl 1 rfl) ?_
    refine lv_iload hx hb dL_law_631 (lv_at hl 5 rfl) ?_
    refine lv_iconst (v := 2) hx hb dL_law_633 (by decide) ?_
    refine lv_iadd hx hb dL_law_634 ?_
    rw [nI_2 i]
    refine va_sld hx hb hX hbl (Nat.not_le.mpr hbl) hS (vp_in_nI (n := (i + 2)) (N := L) (by omega) (by omega)) dL_law_635 ?_
    rw [nI_clamp (n := (i + 2)) (by omega)]
    obtain ⟨E, P, L1, L2, L3, la, sp, od, hs, hM⟩ := hMM
    refine dp_Vi hF hK hN (c_X6_feeder l D G (mu N) R S N9 E P F L1 L2 L3 (nI n) kp th la (nI len) sp od hs n (xs (i + 1)) (xs (i + 2)) _ hμ hM hg rfl hn6) (cwV 2 hts gL_law_X6_feeder rfl rfl rfl (by decide +kernel) ⟨Nat.le_of_ble_eq_true rfl, Nat.le_of_ble_eq_true rfl⟩) (dp_recv hK hM.1 rfl) hS (fun q hq => mu_ge hN0 hq) [] rfl rfl hl.1 (Nat.le_of_ble_eq_true rfl) dL_law_636 ⟨by show cells + 2 ≤ 643901; omega, by show slots + 12 ≤ 7164402; omega⟩ (fun r9 H1 locs hp hzH1 hkH1 hS => ?_)
    have hDW := hDW.md ho hkH1
    have hLo := hLo.kept (hkH1 _ hLo.lt (A6_al (k := 114) ho (by omega) (by omega)))
    obtain ⟨-, rfl, hMM⟩ := hp.resolve_right (fun q => q.1 h0)
    refine lv_istore (lv' := [(6, .int ((if R (39 + 3 * ix (xs (i + 1))) = 0 then 0 else 1))), (5, .int (cFeed (xs (i + 1)) (xs (i + 2)))), (0, .ref b), (1, .ref N), (2, .ref (N + 104)), (3, .ref o), (4, .int (nI i))]) hx hb dL_law_639 hl (by decide) rfl (fun ls hl => ?_)
    refine lv_aload_n hx hb dL_law_641 rfl (lv_at hl 4 rfl) ?_
    obtain ⟨E, P, L1, L2, L3, la, sp, od, hs, hM⟩ := hMM
    refine dp_Vi hF hK hN (c_X6_thrown l D G (mu N) (upd R (39 + 3 * ix (xs (i + 1))) (xs (i + 2))) (msv S R n) N9 E P F L1 L2 L3 (nI (svn n)) kp 0 la (nI len) sp od hs _ hμ hM) (cwV 0 hts gL_law_X6_thrown rfl rfl rfl (by decide +kernel) ⟨Nat.le_of_ble_eq_true rfl, Nat.le_of_ble_eq_true rfl⟩) (dp_recv hK hM.1 rfl) hS nA_i [] rfl rfl hl.1 (Nat.le_of_ble_eq_true rfl) dL_law_642 ⟨by show cells + 2 ≤ 643901; omega, by show slots + 12 ≤ 7164402; omega⟩ (fun rH2 H2 locs hp hzH2 hkH2 hS => ?_)
    obtain ⟨rfl, rfl⟩ := hp
    have hMM := MM.of hM
    refine lv_iload hx hb dL_law_645 (lv_at hl 1 rfl) ?_
    refine lv_icmp_eq (tgt := 652) hx hb dL_law_647 (by decide) (fun c1 => ?_) (fun c1 => absurd h0.symm c1)
    refine lv_iload hx hb dL_law_652 (lv_at hl 1 rfl) ?_
    refine lv_if_ne (tgt := 669) hx hb dL_law_654 (by decide) (fun c2 => absurd c2 (fun q => q h0)) (fun c2 => ?_)
    refine lv_aload_n hx hb dL_law_657 rfl (lv_at hl 5 rfl) ?_
    refine lv_iconst (v := 0) hx hb dL_law_658 (by decide) ?_
    refine dp_lald hx hb hK hLo 4 rfl 0 rfl (by decide) (by decide) dL_law_659 ?_
    rw [ho2]
    refine lv_iload hx hb dL_law_660 (lv_at hl 0 rfl) ?_
    refine lv_i2l hx hb dL_law_662 rfl ?_
    refine W.lcmp hx hb dL_law_663 ?_
    refine lv_if_eq (tgt := 669) hx hb dL_law_664 (by decide) (fun c3 => ?_) (fun c3 => absurd (lg_self _) c3)
    refine lv_goto (tgt := 1574) hx hb dL_law_669 (by decide) ?_
    refine W.widen (k := cells + 4) (n := slots + 24) (by omega) (by omega) ?_
    exact kk _ _ _ hS ⟨(upd R (39 + 3 * ix (xs (i + 1))) (xs (i + 2))), RS, N9, (msv S R n), F, (svs sv n R), (svn n), len, kp, _, _, m9, hDW, hMM, hLo, (gb_feed hg hbu h0).1, (gb_feed hg hbu h0).2, (svn_le hn6), hl6, (hsv.save hn6 hg hbu), hks, (by omega)⟩ (lv_sub hl [2, 3, 4, 5, 6] rfl)
  · refine lv_istore (lv' := [(5, .int (cFeed (xs (i + 1)) (xs (i + 2)))), (0, .ref b), (1, .ref N), (2, .ref (N + 104)), (3, .ref o), (4, .int (nI i))]) hx hb dL_law_621 hl (by decide) rfl (fun ls hl => ?_)
    refine lv_aload_n hx hb dL_law_623 rfl (lv_at hl 3 rfl) ?_
    refine lv_aload_n hx hb dL_law_624 rfl (lv_at hl 1 rfl) ?_
    refine lv_iload hx hb dL_law_625 (lv_at hl 5 rfl) ?_
    refine lv_iconst (v := 1) hx hb dL_law_627 (by decide) ?_
    refine lv_iadd hx hb dL_law_628 ?_
    rw [nI_1 i]
    refine va_sld hx hb hX hbl (Nat.not_le.mpr hbl) hS (vp_in_nI (n := (i + 1)) (N := L) (by omega) (by omega)) dL_law_629 ?_
    rw [nI_clamp (n := (i + 1)) (by omega)]
    refine lv_aload_n hx hb dL_law_630 rfl (lv_at hl 1 rfl) ?_
    refine lv_iload hx hb dL_law_631 (lv_at hl 5 rfl) ?_
    refine lv_iconst (v := 2) hx hb dL_law_633 (by decide) ?_
    refine lv_iadd hx hb dL_law_634 ?_
    rw [nI_2 i]
    refine va_sld hx hb hX hbl (Nat.not_le.mpr hbl) hS (vp_in_nI (n := (i + 2)) (N := L) (by omega) (by omega)) dL_law_635 ?_
    rw [nI_clamp (n := (i + 2)) (by omega)]
    obtain ⟨E, P, L1, L2, L3, la, sp, od, hs, hM⟩ := hMM
    refine dp_Vi hF hK hN (c_X6_feeder l D G (mu N) R S N9 E P F L1 L2 L3 (nI n) kp th la (nI len) sp od hs n (xs (i + 1)) (xs (i + 2)) _ hμ hM hg rfl hn6) (cwV 2 hts gL_law_X6_feeder rfl rfl rfl (by decide +kernel) ⟨Nat.le_of_ble_eq_true rfl, Nat.le_of_ble_eq_true rfl⟩) (dp_recv hK hM.1 rfl) hS (fun q hq => mu_ge hN0 hq) [] rfl rfl hl.1 (Nat.le_of_ble_eq_true rfl) dL_law_636 ⟨by show cells + 2 ≤ 643901; omega, by show slots + 12 ≤ 7164402; omega⟩ (fun r9 H3 locs hp hzH3 hkH3 hS => ?_)
    have hDW := hDW.md ho hkH3
    have hLo := hLo.kept (hkH3 _ hLo.lt (A6_al (k := 114) ho (by omega) (by omega)))
    obtain ⟨-, hMM⟩ := hp.resolve_left (fun q => h0 q.1)
    refine lv_istore (lv' := [(6, .int r9), (5, .int (cFeed (xs (i + 1)) (xs (i + 2)))), (0, .ref b), (1, .ref N), (2, .ref (N + 104)), (3, .ref o), (4, .int (nI i))]) hx hb dL_law_639 hl (by decide) rfl (fun ls hl => ?_)
    refine lv_aload_n hx hb dL_law_641 rfl (lv_at hl 4 rfl) ?_
    obtain ⟨E, P, L1, L2, L3, la, sp, od, hs, hM⟩ := hMM
    refine dp_Vi hF hK hN (c_X6_thrown l D G (mu N) R S N9 E P F L1 L2 L3 (nI n) kp (cFeed (xs (i + 1)) (xs (i + 2))) la (nI len) sp od hs _ hμ hM) (cwV 0 hts gL_law_X6_thrown rfl rfl rfl (by decide +kernel) ⟨Nat.le_of_ble_eq_true rfl, Nat.le_of_ble_eq_true rfl⟩) (dp_recv hK hM.1 rfl) hS nA_i [] rfl rfl hl.1 (Nat.le_of_ble_eq_true rfl) dL_law_642 ⟨by show cells + 2 ≤ 643901; omega, by show slots + 12 ≤ 7164402; omega⟩ (fun rH4 H4 locs hp hzH4 hkH4 hS => ?_)
    obtain ⟨rfl, rfl⟩ := hp
    have hMM := MM.of hM
    refine lv_iload hx hb dL_law_645 (lv_at hl 1 rfl) ?_
    refine lv_icmp_eq (tgt := 652) hx hb dL_law_647 (by decide) (fun c4 => ?_) (fun c4 => absurd rfl c4)
    refine lv_iload hx hb dL_law_652 (lv_at hl 1 rfl) ?_
    refine lv_if_ne (tgt := 669) hx hb dL_law_654 (by decide) (fun c5 => ?_) (fun c5 => absurd c5 h0)
    refine lv_goto (tgt := 1574) hx hb dL_law_669 (by decide) ?_
    refine W.widen (k := cells + 4) (n := slots + 24) (by omega) (by omega) ?_
    exact kk _ _ _ hS ⟨R, RS, N9, S, F, sv, n, len, kp, _, _, m9, hDW, hMM, hLo, hg, hbu, hn6, hl6, hsv, hks, (by omega)⟩ (lv_sub hl [2, 3, 4, 5, 6] rfl)

set_option maxHeartbeats 1600000 in
set_option maxRecDepth 100000 in
theorem K_pass {p : Program} {l : Launch} {e : Env} {s : State} {m : MethodId} {below : List Frame} {meth : Method} {c : Code} {D : va_G} {G : Nat → ClassId} {b N o L c9 : Nat} {xs : Nat → Int32} {Q : State → Prop} {H : Heap} {locs : List Loc} {cells slots : Nat} {ls : Array Slot} (C0 : LC p l s m b c D G N o L xs) (hcs : cells + 4 ≤ 643901 ∧ slots + 24 ≤ 7164402) (hS : va_S (fun q => s.heap.size ≤ q) s.heap H locs) (hI : LInv D G N o c9 H) (hc9 : c9 < 512) (i : Nat) (hi : i + 4 ≤ L) (hl : lv_has ls 9 [(0, .ref b), (1, .ref N), (2, .ref (N + 104)), (3, .ref o), (4, .int (nI i))]) (kk : ∀ (H1 : Heap) (locs1 : List Loc) (ls1 : Array Slot), va_S (fun q => s.heap.size ≤ q) s.heap H1 locs1 → LInv D G N o (c9 + 1) H1 → lv_has ls1 9 [(0, .ref b), (1, .ref N), (2, .ref (N + 104)), (3, .ref o), (4, .int (nI i))] → W p l e room_1 s m #[Value.ref b] below meth c H1 locs1 (cells + 4) (slots + 24) Q (F0 m 1574 ls1 [])) : W p l e room_1 s m #[Value.ref b] below meth c H locs cells slots Q (F0 m 672 ls []) := by
  obtain ⟨hx, hb, hml, hown, hts, hK, hN, hE, hZ, hC, hl9, hN0, ho, hX, hbl, hL⟩ := C0
  obtain ⟨R, RS, N9, S, F, sv, n, len, kp, th, oo, m9, hDW, hMM, hLo, hg, hbu, hn6, hl6, hsv, hks, hm9⟩ := hI
  have hF : CallFix p m c cL_law 9 s #[Value.ref b] wsL_law RL := ⟨hx, hb, hml, hown, hts⟩
  have hα : inj 115 (al N o) := al_inj ho
  have hμ : inj 10 (mu N) := mu_inj N
  refine lv_aload_n hx hb dL_law_672 rfl (lv_at hl 1 rfl) ?_
  refine lv_aload_n hx hb dL_law_673 rfl (lv_at hl 0 rfl) ?_
  refine lv_iload hx hb dL_law_674 (lv_at hl 4 rfl) ?_
  refine lv_iconst (v := 1) hx hb dL_law_676 (by decide) ?_
  refine lv_iadd hx hb dL_law_677 ?_
  rw [nI_1 i]
  refine va_sld hx hb hX hbl (Nat.not_le.mpr hbl) hS (vp_in_nI (n := (i + 1)) (N := L) (by omega) (by omega)) dL_law_678 ?_
  rw [nI_clamp (n := (i + 1)) (by omega)]
  refine lv_aload_n hx hb dL_law_679 rfl (lv_at hl 3 rfl) ?_
  refine dpl_Si hF hK hN hE hZ hC (c_L_pass l hl9 D G (al N o) R RS kp sv n F len oo (xs (i + 1)) _ hα hDW hLo hg hn6 hl6) (vx_cwSW 3 hts gL_law_L_pass rfl rfl rfl (by decide +kernel) ⟨Nat.le_of_ble_eq_true rfl, Nat.le_of_ble_eq_true rfl⟩) hS (fun q hq => al_ge hN0 ho hq) [] rfl rfl hl.1 (Nat.le_of_ble_eq_true rfl) dL_law_680 ⟨by show cells + 1 ≤ 643901; omega, by show slots + 6 ≤ 7164402; omega⟩ (fun r1 H1 locs hp hz1 hk1 hS => ?_)
  have hMM := hMM.cl ho (fun q hq => hq) hk1
  obtain ⟨rfl, hp1⟩ := hp
  rcases hp1 with ⟨h0, hDW, o2, ho2, hLo⟩ | ⟨h0, hDW, hLo⟩
  · refine lv_istore (lv' := [(5, .int (cPass (xs (i + 1)))), (0, .ref b), (1, .ref N), (2, .ref (N + 104)), (3, .ref o), (4, .int (nI i))]) hx hb dL_law_683 hl (by decide) rfl (fun ls hl => ?_)
    refine lv_aload_n hx hb dL_law_685 rfl (lv_at hl 3 rfl) ?_
    refine lv_aload_n hx hb dL_law_686 rfl (lv_at hl 1 rfl) ?_
    refine lv_iload hx hb dL_law_687 (lv_at hl 5 rfl) ?_
    refine lv_iconst (v := 1) hx hb dL_law_689 (by decide) ?_
    refine lv_iadd hx hb dL_law_690 ?_
    rw [nI_1 i]
    refine va_sld hx hb hX hbl (Nat.not_le.mpr hbl) hS (vp_in_nI (n := (i + 1)) (N := L) (by omega) (by omega)) dL_law_691 ?_
    rw [nI_clamp (n := (i + 1)) (by omega)]
    obtain ⟨E, P, L1, L2, L3, la, sp, od, hs, hM⟩ := hMM
    refine dp_Vi hF hK hN (c_X6_pass l D G (mu N) R S N9 E P F L1 L2 L3 (nI n) kp th la (nI len) sp od hs n (xs (i + 1)) _ hμ hM hg rfl hn6) (cwV 1 hts gL_law_X6_pass rfl rfl rfl (by decide +kernel) ⟨Nat.le_of_ble_eq_true rfl, Nat.le_of_ble_eq_true rfl⟩) (dp_recv hK hM.1 rfl) hS (fun q hq => mu_ge hN0 hq) [] rfl rfl hl.1 (Nat.le_of_ble_eq_true rfl) dL_law_692 ⟨by show cells + 1 ≤ 643901; omega, by show slots + 6 ≤ 7164402; omega⟩ (fun r9 H1 locs hp hzH1 hkH1 hS => ?_)
    have hDW := hDW.md ho hkH1
    have hLo := hLo.kept (hkH1 _ hLo.lt (A6_al (k := 114) ho (by omega) (by omega)))
    obtain ⟨-, rfl, hMM⟩ := hp.resolve_right (fun q => q.1 h0)
    refine lv_istore (lv' := [(6, .int (ptn R (ix (xs (i + 1))))), (5, .int (cPass (xs (i + 1)))), (0, .ref b), (1, .ref N), (2, .ref (N + 104)), (3, .ref o), (4, .int (nI i))]) hx hb dL_law_695 hl (by decide) rfl (fun ls hl => ?_)
    refine lv_aload_n hx hb dL_law_697 rfl (lv_at hl 4 rfl) ?_
    obtain ⟨E, P, L1, L2, L3, la, sp, od, hs, hM⟩ := hMM
    refine dp_Vi hF hK hN (c_X6_thrown l D G (mu N) (pt R (ix (xs (i + 1)))) (msv S R n) N9 E P F L1 L2 L3 (nI (svn n)) kp 0 la (nI len) sp od hs _ hμ hM) (cwV 0 hts gL_law_X6_thrown rfl rfl rfl (by decide +kernel) ⟨Nat.le_of_ble_eq_true rfl, Nat.le_of_ble_eq_true rfl⟩) (dp_recv hK hM.1 rfl) hS nA_i [] rfl rfl hl.1 (Nat.le_of_ble_eq_true rfl) dL_law_698 ⟨by show cells + 1 ≤ 643901; omega, by show slots + 6 ≤ 7164402; omega⟩ (fun rH2 H2 locs hp hzH2 hkH2 hS => ?_)
    obtain ⟨rfl, rfl⟩ := hp
    have hMM := MM.of hM
    refine lv_iload hx hb dL_law_701 (lv_at hl 1 rfl) ?_
    refine lv_icmp_eq (tgt := 708) hx hb dL_law_703 (by decide) (fun c1 => ?_) (fun c1 => absurd h0.symm c1)
    refine lv_iload hx hb dL_law_708 (lv_at hl 1 rfl) ?_
    refine lv_if_ne (tgt := 725) hx hb dL_law_710 (by decide) (fun c2 => absurd c2 (fun q => q h0)) (fun c2 => ?_)
    refine lv_aload_n hx hb dL_law_713 rfl (lv_at hl 5 rfl) ?_
    refine lv_iconst (v := 0) hx hb dL_law_714 (by decide) ?_
    refine dp_lald hx hb hK hLo 4 rfl 0 rfl (by decide) (by decide) dL_law_715 ?_
    rw [ho2]
    refine lv_iload hx hb dL_law_716 (lv_at hl 0 rfl) ?_
    refine lv_i2l hx hb dL_law_718 rfl ?_
    refine W.lcmp hx hb dL_law_719 ?_
    refine lv_if_eq (tgt := 725) hx hb dL_law_720 (by decide) (fun c3 => ?_) (fun c3 => absurd (lg_self _) c3)
    refine lv_goto (tgt := 1574) hx hb dL_law_725 (by decide) ?_
    refine W.widen (k := cells + 4) (n := slots + 24) (by omega) (by omega) ?_
    exact kk _ _ _ hS ⟨(pt R (ix (xs (i + 1)))), RS, N9, (msv S R n), F, (svs sv n R), (svn n), len, kp, _, _, (m9 + 1), hDW, hMM, hLo, (gb_pass hg hbu h0).1, (bud_le (gb_pass hg hbu h0).2 (by omega)), (svn_le hn6), hl6, ((hsv.save hn6 hg hbu).le (by omega)), (hks.le (by omega)), (by omega)⟩ (lv_sub hl [2, 3, 4, 5, 6] rfl)
  · refine lv_istore (lv' := [(5, .int (cPass (xs (i + 1)))), (0, .ref b), (1, .ref N), (2, .ref (N + 104)), (3, .ref o), (4, .int (nI i))]) hx hb dL_law_683 hl (by decide) rfl (fun ls hl => ?_)
    refine lv_aload_n hx hb dL_law_685 rfl (lv_at hl 3 rfl) ?_
    refine lv_aload_n hx hb dL_law_686 rfl (lv_at hl 1 rfl) ?_
    refine lv_iload hx hb dL_law_687 (lv_at hl 5 rfl) ?_
    refine lv_iconst (v := 1) hx hb dL_law_689 (by decide) ?_
    refine lv_iadd hx hb dL_law_690 ?_
    rw [nI_1 i]
    refine va_sld hx hb hX hbl (Nat.not_le.mpr hbl) hS (vp_in_nI (n := (i + 1)) (N := L) (by omega) (by omega)) dL_law_691 ?_
    rw [nI_clamp (n := (i + 1)) (by omega)]
    obtain ⟨E, P, L1, L2, L3, la, sp, od, hs, hM⟩ := hMM
    refine dp_Vi hF hK hN (c_X6_pass l D G (mu N) R S N9 E P F L1 L2 L3 (nI n) kp th la (nI len) sp od hs n (xs (i + 1)) _ hμ hM hg rfl hn6) (cwV 1 hts gL_law_X6_pass rfl rfl rfl (by decide +kernel) ⟨Nat.le_of_ble_eq_true rfl, Nat.le_of_ble_eq_true rfl⟩) (dp_recv hK hM.1 rfl) hS (fun q hq => mu_ge hN0 hq) [] rfl rfl hl.1 (Nat.le_of_ble_eq_true rfl) dL_law_692 ⟨by show cells + 1 ≤ 643901; omega, by show slots + 6 ≤ 7164402; omega⟩ (fun r9 H3 locs hp hzH3 hkH3 hS => ?_)
    have hDW := hDW.md ho hkH3
    have hLo := hLo.kept (hkH3 _ hLo.lt (A6_al (k := 114) ho (by omega) (by omega)))
    obtain ⟨-, hMM⟩ := hp.resolve_left (fun q => h0 q.1)
    refine lv_istore (lv' := [(6, .int r9), (5, .int (cPass (xs (i + 1)))), (0, .ref b), (1, .ref N), (2, .ref (N + 104)), (3, .ref o), (4, .int (nI i))]) hx hb dL_law_695 hl (by decide) rfl (fun ls hl => ?_)
    refine lv_aload_n hx hb dL_law_697 rfl (lv_at hl 4 rfl) ?_
    obtain ⟨E, P, L1, L2, L3, la, sp, od, hs, hM⟩ := hMM
    refine dp_Vi hF hK hN (c_X6_thrown l D G (mu N) R S N9 E P F L1 L2 L3 (nI n) kp (cPass (xs (i + 1))) la (nI len) sp od hs _ hμ hM) (cwV 0 hts gL_law_X6_thrown rfl rfl rfl (by decide +kernel) ⟨Nat.le_of_ble_eq_true rfl, Nat.le_of_ble_eq_true rfl⟩) (dp_recv hK hM.1 rfl) hS nA_i [] rfl rfl hl.1 (Nat.le_of_ble_eq_true rfl) dL_law_698 ⟨by show cells + 1 ≤ 643901; omega, by show slots + 6 ≤ 7164402; omega⟩ (fun rH4 H4 locs hp hzH4 hkH4 hS => ?_)
    obtain ⟨rfl, rfl⟩ := hp
    have hMM := MM.of hM
    refine lv_iload hx hb dL_law_701 (lv_at hl 1 rfl) ?_
    refine lv_icmp_eq (tgt := 708) hx hb dL_law_703 (by decide) (fun c4 => ?_) (fun c4 => absurd rfl c4)
    refine lv_iload hx hb dL_law_708 (lv_at hl 1 rfl) ?_
    refine lv_if_ne (tgt := 725) hx hb dL_law_710 (by decide) (fun c5 => ?_) (fun c5 => absurd c5 h0)
    refine lv_goto (tgt := 1574) hx hb dL_law_725 (by decide) ?_
    refine W.widen (k := cells + 4) (n := slots + 24) (by omega) (by omega) ?_
    exact kk _ _ _ hS ⟨R, RS, N9, S, F, sv, n, len, kp, _, _, m9, hDW, hMM, hLo, hg, hbu, hn6, hl6, hsv, hks, (by omega)⟩ (lv_sub hl [2, 3, 4, 5, 6] rfl)

set_option maxHeartbeats 1600000 in
set_option maxRecDepth 100000 in
theorem K_set {p : Program} {l : Launch} {e : Env} {s : State} {m : MethodId} {below : List Frame} {meth : Method} {c : Code} {D : va_G} {G : Nat → ClassId} {b N o L c9 : Nat} {xs : Nat → Int32} {Q : State → Prop} {H : Heap} {locs : List Loc} {cells slots : Nat} {ls : Array Slot} (C0 : LC p l s m b c D G N o L xs) (hcs : cells + 4 ≤ 643901 ∧ slots + 24 ≤ 7164402) (hS : va_S (fun q => s.heap.size ≤ q) s.heap H locs) (hI : LInv D G N o c9 H) (hc9 : c9 < 512) (i : Nat) (hi : i + 4 ≤ L) (hl : lv_has ls 9 [(0, .ref b), (1, .ref N), (2, .ref (N + 104)), (3, .ref o), (4, .int (nI i))]) (kk : ∀ (H1 : Heap) (locs1 : List Loc) (ls1 : Array Slot), va_S (fun q => s.heap.size ≤ q) s.heap H1 locs1 → LInv D G N o (c9 + 1) H1 → lv_has ls1 9 [(0, .ref b), (1, .ref N), (2, .ref (N + 104)), (3, .ref o), (4, .int (nI i))] → W p l e room_1 s m #[Value.ref b] below meth c H1 locs1 (cells + 4) (slots + 24) Q (F0 m 1574 ls1 [])) : W p l e room_1 s m #[Value.ref b] below meth c H locs cells slots Q (F0 m 728 ls []) := by
  obtain ⟨hx, hb, hml, hown, hts, hK, hN, hE, hZ, hC, hl9, hN0, ho, hX, hbl, hL⟩ := C0
  obtain ⟨R, RS, N9, S, F, sv, n, len, kp, th, oo, m9, hDW, hMM, hLo, hg, hbu, hn6, hl6, hsv, hks, hm9⟩ := hI
  have hF : CallFix p m c cL_law 9 s #[Value.ref b] wsL_law RL := ⟨hx, hb, hml, hown, hts⟩
  have hα : inj 115 (al N o) := al_inj ho
  have hμ : inj 10 (mu N) := mu_inj N
  refine lv_aload_n hx hb dL_law_728 rfl (lv_at hl 1 rfl) ?_
  refine lv_aload_n hx hb dL_law_729 rfl (lv_at hl 0 rfl) ?_
  refine lv_iload hx hb dL_law_730 (lv_at hl 4 rfl) ?_
  refine lv_iconst (v := 1) hx hb dL_law_732 (by decide) ?_
  refine lv_iadd hx hb dL_law_733 ?_
  rw [nI_1 i]
  refine va_sld hx hb hX hbl (Nat.not_le.mpr hbl) hS (vp_in_nI (n := (i + 1)) (N := L) (by omega) (by omega)) dL_law_734 ?_
  rw [nI_clamp (n := (i + 1)) (by omega)]
  refine lv_aload_n hx hb dL_law_735 rfl (lv_at hl 0 rfl) ?_
  refine lv_iload hx hb dL_law_736 (lv_at hl 4 rfl) ?_
  refine lv_iconst (v := 2) hx hb dL_law_738 (by decide) ?_
  refine lv_iadd hx hb dL_law_739 ?_
  rw [nI_2 i]
  refine va_sld hx hb hX hbl (Nat.not_le.mpr hbl) hS (vp_in_nI (n := (i + 2)) (N := L) (by omega) (by omega)) dL_law_740 ?_
  rw [nI_clamp (n := (i + 2)) (by omega)]
  refine lv_aload_n hx hb dL_law_741 rfl (lv_at hl 3 rfl) ?_
  refine dpl_Si hF hK hN hE hZ hC (c_L_set l hl9 D G (al N o) R RS kp sv n F len oo (xs (i + 1)) (xs (i + 2)) _ hα hDW hLo hg hn6 hl6) (vx_cwSW 4 hts gL_law_L_set rfl rfl rfl (by decide +kernel) ⟨Nat.le_of_ble_eq_true rfl, Nat.le_of_ble_eq_true rfl⟩) hS (fun q hq => al_ge hN0 ho hq) [] rfl rfl hl.1 (Nat.le_of_ble_eq_true rfl) dL_law_742 ⟨by show cells + 2 ≤ 643901; omega, by show slots + 12 ≤ 7164402; omega⟩ (fun r1 H1 locs hp hz1 hk1 hS => ?_)
  have hMM := hMM.cl ho (fun q hq => hq) hk1
  obtain ⟨rfl, hp1⟩ := hp
  rcases hp1 with ⟨h0, hDW, o2, ho2, hLo⟩ | ⟨h0, hDW, hLo⟩
  · refine lv_istore (lv' := [(5, .int (cSet (xs (i + 1)) (xs (i + 2)))), (0, .ref b), (1, .ref N), (2, .ref (N + 104)), (3, .ref o), (4, .int (nI i))]) hx hb dL_law_745 hl (by decide) rfl (fun ls hl => ?_)
    refine lv_aload_n hx hb dL_law_747 rfl (lv_at hl 3 rfl) ?_
    refine lv_aload_n hx hb dL_law_748 rfl (lv_at hl 1 rfl) ?_
    refine lv_iload hx hb dL_law_749 (lv_at hl 5 rfl) ?_
    refine lv_iconst (v := 1) hx hb dL_law_751 (by decide) ?_
    refine lv_iadd hx hb dL_law_752 ?_
    rw [nI_1 i]
    refine va_sld hx hb hX hbl (Nat.not_le.mpr hbl) hS (vp_in_nI (n := (i + 1)) (N := L) (by omega) (by omega)) dL_law_753 ?_
    rw [nI_clamp (n := (i + 1)) (by omega)]
    refine lv_aload_n hx hb dL_law_754 rfl (lv_at hl 1 rfl) ?_
    refine lv_iload hx hb dL_law_755 (lv_at hl 5 rfl) ?_
    refine lv_iconst (v := 2) hx hb dL_law_757 (by decide) ?_
    refine lv_iadd hx hb dL_law_758 ?_
    rw [nI_2 i]
    refine va_sld hx hb hX hbl (Nat.not_le.mpr hbl) hS (vp_in_nI (n := (i + 2)) (N := L) (by omega) (by omega)) dL_law_759 ?_
    rw [nI_clamp (n := (i + 2)) (by omega)]
    obtain ⟨E, P, L1, L2, L3, la, sp, od, hs, hM⟩ := hMM
    refine dp_Vi hF hK hN (c_X6_set l D G (mu N) R S N9 E P F L1 L2 L3 (nI n) kp th la (nI len) sp od hs n (xs (i + 1)) (xs (i + 2)) _ hμ hM hg rfl hn6) (cwV 2 hts gL_law_X6_set rfl rfl rfl (by decide +kernel) ⟨Nat.le_of_ble_eq_true rfl, Nat.le_of_ble_eq_true rfl⟩) (dp_recv hK hM.1 rfl) hS (fun q hq => mu_ge hN0 hq) [] rfl rfl hl.1 (Nat.le_of_ble_eq_true rfl) dL_law_760 ⟨by show cells + 2 ≤ 643901; omega, by show slots + 12 ≤ 7164402; omega⟩ (fun r9 H1 locs hp hzH1 hkH1 hS => ?_)
    have hDW := hDW.md ho hkH1
    have hLo := hLo.kept (hkH1 _ hLo.lt (A6_al (k := 114) ho (by omega) (by omega)))
    obtain ⟨-, rfl, hMM⟩ := hp.resolve_right (fun q => q.1 h0)
    refine lv_istore (lv' := [(6, .int (R (ix (xs (i + 1))))), (5, .int (cSet (xs (i + 1)) (xs (i + 2)))), (0, .ref b), (1, .ref N), (2, .ref (N + 104)), (3, .ref o), (4, .int (nI i))]) hx hb dL_law_763 hl (by decide) rfl (fun ls hl => ?_)
    refine lv_aload_n hx hb dL_law_765 rfl (lv_at hl 4 rfl) ?_
    obtain ⟨E, P, L1, L2, L3, la, sp, od, hs, hM⟩ := hMM
    refine dp_Vi hF hK hN (c_X6_thrown l D G (mu N) (upd R (ix (xs (i + 1))) (xs (i + 2))) (msv S R n) N9 E P F L1 L2 L3 (nI (svn n)) kp 0 la (nI len) sp od hs _ hμ hM) (cwV 0 hts gL_law_X6_thrown rfl rfl rfl (by decide +kernel) ⟨Nat.le_of_ble_eq_true rfl, Nat.le_of_ble_eq_true rfl⟩) (dp_recv hK hM.1 rfl) hS nA_i [] rfl rfl hl.1 (Nat.le_of_ble_eq_true rfl) dL_law_766 ⟨by show cells + 2 ≤ 643901; omega, by show slots + 12 ≤ 7164402; omega⟩ (fun rH2 H2 locs hp hzH2 hkH2 hS => ?_)
    obtain ⟨rfl, rfl⟩ := hp
    have hMM := MM.of hM
    refine lv_iload hx hb dL_law_769 (lv_at hl 1 rfl) ?_
    refine lv_icmp_eq (tgt := 776) hx hb dL_law_771 (by decide) (fun c1 => ?_) (fun c1 => absurd h0.symm c1)
    refine lv_iload hx hb dL_law_776 (lv_at hl 1 rfl) ?_
    refine lv_if_ne (tgt := 793) hx hb dL_law_778 (by decide) (fun c2 => absurd c2 (fun q => q h0)) (fun c2 => ?_)
    refine lv_aload_n hx hb dL_law_781 rfl (lv_at hl 5 rfl) ?_
    refine lv_iconst (v := 0) hx hb dL_law_782 (by decide) ?_
    refine dp_lald hx hb hK hLo 4 rfl 0 rfl (by decide) (by decide) dL_law_783 ?_
    rw [ho2]
    refine lv_iload hx hb dL_law_784 (lv_at hl 0 rfl) ?_
    refine lv_i2l hx hb dL_law_786 rfl ?_
    refine W.lcmp hx hb dL_law_787 ?_
    refine lv_if_eq (tgt := 793) hx hb dL_law_788 (by decide) (fun c3 => ?_) (fun c3 => absurd (lg_self _) c3)
    refine lv_goto (tgt := 1574) hx hb dL_law_793 (by decide) ?_
    refine W.widen (k := cells + 4) (n := slots + 24) (by omega) (by omega) ?_
    exact kk _ _ _ hS ⟨(upd R (ix (xs (i + 1))) (xs (i + 2))), RS, N9, (msv S R n), F, (svs sv n R), (svn n), len, kp, _, _, m9, hDW, hMM, hLo, (gb_set hg hbu h0).1, (gb_set hg hbu h0).2, (svn_le hn6), hl6, (hsv.save hn6 hg hbu), hks, (by omega)⟩ (lv_sub hl [2, 3, 4, 5, 6] rfl)
  · refine lv_istore (lv' := [(5, .int (cSet (xs (i + 1)) (xs (i + 2)))), (0, .ref b), (1, .ref N), (2, .ref (N + 104)), (3, .ref o), (4, .int (nI i))]) hx hb dL_law_745 hl (by decide) rfl (fun ls hl => ?_)
    refine lv_aload_n hx hb dL_law_747 rfl (lv_at hl 3 rfl) ?_
    refine lv_aload_n hx hb dL_law_748 rfl (lv_at hl 1 rfl) ?_
    refine lv_iload hx hb dL_law_749 (lv_at hl 5 rfl) ?_
    refine lv_iconst (v := 1) hx hb dL_law_751 (by decide) ?_
    refine lv_iadd hx hb dL_law_752 ?_
    rw [nI_1 i]
    refine va_sld hx hb hX hbl (Nat.not_le.mpr hbl) hS (vp_in_nI (n := (i + 1)) (N := L) (by omega) (by omega)) dL_law_753 ?_
    rw [nI_clamp (n := (i + 1)) (by omega)]
    refine lv_aload_n hx hb dL_law_754 rfl (lv_at hl 1 rfl) ?_
    refine lv_iload hx hb dL_law_755 (lv_at hl 5 rfl) ?_
    refine lv_iconst (v := 2) hx hb dL_law_757 (by decide) ?_
    refine lv_iadd hx hb dL_law_758 ?_
    rw [nI_2 i]
    refine va_sld hx hb hX hbl (Nat.not_le.mpr hbl) hS (vp_in_nI (n := (i + 2)) (N := L) (by omega) (by omega)) dL_law_759 ?_
    rw [nI_clamp (n := (i + 2)) (by omega)]
    obtain ⟨E, P, L1, L2, L3, la, sp, od, hs, hM⟩ := hMM
    refine dp_Vi hF hK hN (c_X6_set l D G (mu N) R S N9 E P F L1 L2 L3 (nI n) kp th la (nI len) sp od hs n (xs (i + 1)) (xs (i + 2)) _ hμ hM hg rfl hn6) (cwV 2 hts gL_law_X6_set rfl rfl rfl (by decide +kernel) ⟨Nat.le_of_ble_eq_true rfl, Nat.le_of_ble_eq_true rfl⟩) (dp_recv hK hM.1 rfl) hS (fun q hq => mu_ge hN0 hq) [] rfl rfl hl.1 (Nat.le_of_ble_eq_true rfl) dL_law_760 ⟨by show cells + 2 ≤ 643901; omega, by show slots + 12 ≤ 7164402; omega⟩ (fun r9 H3 locs hp hzH3 hkH3 hS => ?_)
    have hDW := hDW.md ho hkH3
    have hLo := hLo.kept (hkH3 _ hLo.lt (A6_al (k := 114) ho (by omega) (by omega)))
    obtain ⟨-, hMM⟩ := hp.resolve_left (fun q => h0 q.1)
    refine lv_istore (lv' := [(6, .int r9), (5, .int (cSet (xs (i + 1)) (xs (i + 2)))), (0, .ref b), (1, .ref N), (2, .ref (N + 104)), (3, .ref o), (4, .int (nI i))]) hx hb dL_law_763 hl (by decide) rfl (fun ls hl => ?_)
    refine lv_aload_n hx hb dL_law_765 rfl (lv_at hl 4 rfl) ?_
    obtain ⟨E, P, L1, L2, L3, la, sp, od, hs, hM⟩ := hMM
    refine dp_Vi hF hK hN (c_X6_thrown l D G (mu N) R S N9 E P F L1 L2 L3 (nI n) kp (cSet (xs (i + 1)) (xs (i + 2))) la (nI len) sp od hs _ hμ hM) (cwV 0 hts gL_law_X6_thrown rfl rfl rfl (by decide +kernel) ⟨Nat.le_of_ble_eq_true rfl, Nat.le_of_ble_eq_true rfl⟩) (dp_recv hK hM.1 rfl) hS nA_i [] rfl rfl hl.1 (Nat.le_of_ble_eq_true rfl) dL_law_766 ⟨by show cells + 2 ≤ 643901; omega, by show slots + 12 ≤ 7164402; omega⟩ (fun rH4 H4 locs hp hzH4 hkH4 hS => ?_)
    obtain ⟨rfl, rfl⟩ := hp
    have hMM := MM.of hM
    refine lv_iload hx hb dL_law_769 (lv_at hl 1 rfl) ?_
    refine lv_icmp_eq (tgt := 776) hx hb dL_law_771 (by decide) (fun c4 => ?_) (fun c4 => absurd rfl c4)
    refine lv_iload hx hb dL_law_776 (lv_at hl 1 rfl) ?_
    refine lv_if_ne (tgt := 793) hx hb dL_law_778 (by decide) (fun c5 => ?_) (fun c5 => absurd c5 h0)
    refine lv_goto (tgt := 1574) hx hb dL_law_793 (by decide) ?_
    refine W.widen (k := cells + 4) (n := slots + 24) (by omega) (by omega) ?_
    exact kk _ _ _ hS ⟨R, RS, N9, S, F, sv, n, len, kp, _, _, m9, hDW, hMM, hLo, hg, hbu, hn6, hl6, hsv, hks, (by omega)⟩ (lv_sub hl [2, 3, 4, 5, 6] rfl)

set_option maxHeartbeats 1600000 in
set_option maxRecDepth 100000 in
theorem K_append {p : Program} {l : Launch} {e : Env} {s : State} {m : MethodId} {below : List Frame} {meth : Method} {c : Code} {D : va_G} {G : Nat → ClassId} {b N o L c9 : Nat} {xs : Nat → Int32} {Q : State → Prop} {H : Heap} {locs : List Loc} {cells slots : Nat} {ls : Array Slot} (C0 : LC p l s m b c D G N o L xs) (hcs : cells + 4 ≤ 643901 ∧ slots + 24 ≤ 7164402) (hS : va_S (fun q => s.heap.size ≤ q) s.heap H locs) (hI : LInv D G N o c9 H) (hc9 : c9 < 512) (i : Nat) (hi : i + 4 ≤ L) (hl : lv_has ls 9 [(0, .ref b), (1, .ref N), (2, .ref (N + 104)), (3, .ref o), (4, .int (nI i))]) (kk : ∀ (H1 : Heap) (locs1 : List Loc) (ls1 : Array Slot), va_S (fun q => s.heap.size ≤ q) s.heap H1 locs1 → LInv D G N o (c9 + 1) H1 → lv_has ls1 9 [(0, .ref b), (1, .ref N), (2, .ref (N + 104)), (3, .ref o), (4, .int (nI i))] → W p l e room_1 s m #[Value.ref b] below meth c H1 locs1 (cells + 4) (slots + 24) Q (F0 m 1574 ls1 [])) : W p l e room_1 s m #[Value.ref b] below meth c H locs cells slots Q (F0 m 796 ls []) := by
  obtain ⟨hx, hb, hml, hown, hts, hK, hN, hE, hZ, hC, hl9, hN0, ho, hX, hbl, hL⟩ := C0
  obtain ⟨R, RS, N9, S, F, sv, n, len, kp, th, oo, m9, hDW, hMM, hLo, hg, hbu, hn6, hl6, hsv, hks, hm9⟩ := hI
  have hF : CallFix p m c cL_law 9 s #[Value.ref b] wsL_law RL := ⟨hx, hb, hml, hown, hts⟩
  have hα : inj 115 (al N o) := al_inj ho
  have hμ : inj 10 (mu N) := mu_inj N
  refine lv_aload_n hx hb dL_law_796 rfl (lv_at hl 1 rfl) ?_
  refine lv_aload_n hx hb dL_law_797 rfl (lv_at hl 0 rfl) ?_
  refine lv_iload hx hb dL_law_798 (lv_at hl 4 rfl) ?_
  refine lv_iconst (v := 1) hx hb dL_law_800 (by decide) ?_
  refine lv_iadd hx hb dL_law_801 ?_
  rw [nI_1 i]
  refine va_sld hx hb hX hbl (Nat.not_le.mpr hbl) hS (vp_in_nI (n := (i + 1)) (N := L) (by omega) (by omega)) dL_law_802 ?_
  rw [nI_clamp (n := (i + 1)) (by omega)]
  refine lv_aload_n hx hb dL_law_803 rfl (lv_at hl 3 rfl) ?_
  refine dpl_Si hF hK hN hE hZ hC (c_L_append l hl9 D G (al N o) R RS kp sv n F len oo (xs (i + 1)) _ hα hDW hLo hg hn6 hl6) (vx_cwSW 3 hts gL_law_L_append rfl rfl rfl (by decide +kernel) ⟨Nat.le_of_ble_eq_true rfl, Nat.le_of_ble_eq_true rfl⟩) hS (fun q hq => al_ge hN0 ho hq) [] rfl rfl hl.1 (Nat.le_of_ble_eq_true rfl) dL_law_804 ⟨by show cells + 2 ≤ 643901; omega, by show slots + 12 ≤ 7164402; omega⟩ (fun r1 H1 locs hp hz1 hk1 hS => ?_)
  have hMM := hMM.cl ho (fun q hq => hq) hk1
  obtain ⟨rfl, hp1⟩ := hp
  rcases hp1 with ⟨h0, hDW, o2, ho2, hLo⟩ | ⟨h0, hDW, hLo⟩
  · refine lv_istore (lv' := [(5, .int (cApp (xs (i + 1)) len)), (0, .ref b), (1, .ref N), (2, .ref (N + 104)), (3, .ref o), (4, .int (nI i))]) hx hb dL_law_807 hl (by decide) rfl (fun ls hl => ?_)
    refine lv_aload_n hx hb dL_law_809 rfl (lv_at hl 3 rfl) ?_
    refine lv_aload_n hx hb dL_law_810 rfl (lv_at hl 1 rfl) ?_
    refine lv_iload hx hb dL_law_811 (lv_at hl 5 rfl) ?_
    refine lv_iconst (v := 1) hx hb dL_law_813 (by decide) ?_
    refine lv_iadd hx hb dL_law_814 ?_
    rw [nI_1 i]
    refine va_sld hx hb hX hbl (Nat.not_le.mpr hbl) hS (vp_in_nI (n := (i + 1)) (N := L) (by omega) (by omega)) dL_law_815 ?_
    rw [nI_clamp (n := (i + 1)) (by omega)]
    obtain ⟨E, P, L1, L2, L3, la, sp, od, hs, hM⟩ := hMM
    refine dp_Vi hF hK hN (c_X6_append l D G (mu N) R S N9 E P F L1 L2 L3 (nI n) kp th la (nI len) sp od hs len (xs (i + 1)) _ hμ hM rfl hl6) (cwV 1 hts gL_law_X6_append rfl rfl rfl (by decide +kernel) ⟨Nat.le_of_ble_eq_true rfl, Nat.le_of_ble_eq_true rfl⟩) (dp_recv hK hM.1 rfl) hS (fun q hq => mu_ge hN0 hq) [] rfl rfl hl.1 (Nat.le_of_ble_eq_true rfl) dL_law_816 ⟨by show cells + 2 ≤ 643901; omega, by show slots + 12 ≤ 7164402; omega⟩ (fun r9 H1 locs hp hzH1 hkH1 hS => ?_)
    have hDW := hDW.md ho hkH1
    have hLo := hLo.kept (hkH1 _ hLo.lt (A6_al (k := 114) ho (by omega) (by omega)))
    obtain ⟨-, rfl, hMM⟩ := hp.resolve_right (fun q => q.1 h0)
    refine lv_istore (lv' := [(6, .int (nI (len + 1))), (5, .int (cApp (xs (i + 1)) len)), (0, .ref b), (1, .ref N), (2, .ref (N + 104)), (3, .ref o), (4, .int (nI i))]) hx hb dL_law_819 hl (by decide) rfl (fun ls hl => ?_)
    refine lv_aload_n hx hb dL_law_821 rfl (lv_at hl 4 rfl) ?_
    obtain ⟨E, P, L1, L2, L3, la, sp, od, hs, hM⟩ := hMM
    refine dp_Vi hF hK hN (c_X6_thrown l D G (mu N) R S N9 E P (upd F len (xs (i + 1))) L1 L2 L3 (nI n) kp 0 la (nI (len + 1)) sp od hs _ hμ hM) (cwV 0 hts gL_law_X6_thrown rfl rfl rfl (by decide +kernel) ⟨Nat.le_of_ble_eq_true rfl, Nat.le_of_ble_eq_true rfl⟩) (dp_recv hK hM.1 rfl) hS nA_i [] rfl rfl hl.1 (Nat.le_of_ble_eq_true rfl) dL_law_822 ⟨by show cells + 2 ≤ 643901; omega, by show slots + 12 ≤ 7164402; omega⟩ (fun rH2 H2 locs hp hzH2 hkH2 hS => ?_)
    obtain ⟨rfl, rfl⟩ := hp
    have hMM := MM.of hM
    refine lv_iload hx hb dL_law_825 (lv_at hl 1 rfl) ?_
    refine lv_icmp_eq (tgt := 832) hx hb dL_law_827 (by decide) (fun c1 => ?_) (fun c1 => absurd h0.symm c1)
    refine lv_iload hx hb dL_law_832 (lv_at hl 1 rfl) ?_
    refine lv_if_ne (tgt := 849) hx hb dL_law_834 (by decide) (fun c2 => absurd c2 (fun q => q h0)) (fun c2 => ?_)
    refine lv_aload_n hx hb dL_law_837 rfl (lv_at hl 5 rfl) ?_
    refine lv_iconst (v := 0) hx hb dL_law_838 (by decide) ?_
    refine dp_lald hx hb hK hLo 4 rfl 0 rfl (by decide) (by decide) dL_law_839 ?_
    rw [ho2]
    refine lv_iload hx hb dL_law_840 (lv_at hl 0 rfl) ?_
    refine lv_i2l hx hb dL_law_842 rfl ?_
    refine W.lcmp hx hb dL_law_843 ?_
    refine lv_if_eq (tgt := 849) hx hb dL_law_844 (by decide) (fun c3 => ?_) (fun c3 => absurd (lg_self _) c3)
    refine lv_goto (tgt := 1574) hx hb dL_law_849 (by decide) ?_
    refine W.widen (k := cells + 4) (n := slots + 24) (by omega) (by omega) ?_
    exact kk _ _ _ hS ⟨R, RS, N9, S, (upd F len (xs (i + 1))), sv, n, (len + 1), kp, _, _, m9, hDW, hMM, hLo, hg, hbu, hn6, (by have h9 := cApp_l h0; omega), hsv, hks, (by omega)⟩ (lv_sub hl [2, 3, 4, 5, 6] rfl)
  · refine lv_istore (lv' := [(5, .int (cApp (xs (i + 1)) len)), (0, .ref b), (1, .ref N), (2, .ref (N + 104)), (3, .ref o), (4, .int (nI i))]) hx hb dL_law_807 hl (by decide) rfl (fun ls hl => ?_)
    refine lv_aload_n hx hb dL_law_809 rfl (lv_at hl 3 rfl) ?_
    refine lv_aload_n hx hb dL_law_810 rfl (lv_at hl 1 rfl) ?_
    refine lv_iload hx hb dL_law_811 (lv_at hl 5 rfl) ?_
    refine lv_iconst (v := 1) hx hb dL_law_813 (by decide) ?_
    refine lv_iadd hx hb dL_law_814 ?_
    rw [nI_1 i]
    refine va_sld hx hb hX hbl (Nat.not_le.mpr hbl) hS (vp_in_nI (n := (i + 1)) (N := L) (by omega) (by omega)) dL_law_815 ?_
    rw [nI_clamp (n := (i + 1)) (by omega)]
    obtain ⟨E, P, L1, L2, L3, la, sp, od, hs, hM⟩ := hMM
    refine dp_Vi hF hK hN (c_X6_append l D G (mu N) R S N9 E P F L1 L2 L3 (nI n) kp th la (nI len) sp od hs len (xs (i + 1)) _ hμ hM rfl hl6) (cwV 1 hts gL_law_X6_append rfl rfl rfl (by decide +kernel) ⟨Nat.le_of_ble_eq_true rfl, Nat.le_of_ble_eq_true rfl⟩) (dp_recv hK hM.1 rfl) hS (fun q hq => mu_ge hN0 hq) [] rfl rfl hl.1 (Nat.le_of_ble_eq_true rfl) dL_law_816 ⟨by show cells + 2 ≤ 643901; omega, by show slots + 12 ≤ 7164402; omega⟩ (fun r9 H3 locs hp hzH3 hkH3 hS => ?_)
    have hDW := hDW.md ho hkH3
    have hLo := hLo.kept (hkH3 _ hLo.lt (A6_al (k := 114) ho (by omega) (by omega)))
    obtain ⟨-, hMM⟩ := hp.resolve_left (fun q => h0 q.1)
    refine lv_istore (lv' := [(6, .int r9), (5, .int (cApp (xs (i + 1)) len)), (0, .ref b), (1, .ref N), (2, .ref (N + 104)), (3, .ref o), (4, .int (nI i))]) hx hb dL_law_819 hl (by decide) rfl (fun ls hl => ?_)
    refine lv_aload_n hx hb dL_law_821 rfl (lv_at hl 4 rfl) ?_
    obtain ⟨E, P, L1, L2, L3, la, sp, od, hs, hM⟩ := hMM
    refine dp_Vi hF hK hN (c_X6_thrown l D G (mu N) R S N9 E P F L1 L2 L3 (nI n) kp (cApp (xs (i + 1)) len) la (nI len) sp od hs _ hμ hM) (cwV 0 hts gL_law_X6_thrown rfl rfl rfl (by decide +kernel) ⟨Nat.le_of_ble_eq_true rfl, Nat.le_of_ble_eq_true rfl⟩) (dp_recv hK hM.1 rfl) hS nA_i [] rfl rfl hl.1 (Nat.le_of_ble_eq_true rfl) dL_law_822 ⟨by show cells + 2 ≤ 643901; omega, by show slots + 12 ≤ 7164402; omega⟩ (fun rH4 H4 locs hp hzH4 hkH4 hS => ?_)
    obtain ⟨rfl, rfl⟩ := hp
    have hMM := MM.of hM
    refine lv_iload hx hb dL_law_825 (lv_at hl 1 rfl) ?_
    refine lv_icmp_eq (tgt := 832) hx hb dL_law_827 (by decide) (fun c4 => ?_) (fun c4 => absurd rfl c4)
    refine lv_iload hx hb dL_law_832 (lv_at hl 1 rfl) ?_
    refine lv_if_ne (tgt := 849) hx hb dL_law_834 (by decide) (fun c5 => ?_) (fun c5 => absurd c5 h0)
    refine lv_goto (tgt := 1574) hx hb dL_law_849 (by decide) ?_
    refine W.widen (k := cells + 4) (n := slots + 24) (by omega) (by omega) ?_
    exact kk _ _ _ hS ⟨R, RS, N9, S, F, sv, n, len, kp, _, _, m9, hDW, hMM, hLo, hg, hbu, hn6, hl6, hsv, hks, (by omega)⟩ (lv_sub hl [2, 3, 4, 5, 6] rfl)

set_option maxHeartbeats 1600000 in
set_option maxRecDepth 100000 in
theorem K_obey {p : Program} {l : Launch} {e : Env} {s : State} {m : MethodId} {below : List Frame} {meth : Method} {c : Code} {D : va_G} {G : Nat → ClassId} {b N o L c9 : Nat} {xs : Nat → Int32} {Q : State → Prop} {H : Heap} {locs : List Loc} {cells slots : Nat} {ls : Array Slot} (C0 : LC p l s m b c D G N o L xs) (hcs : cells + 4 ≤ 643901 ∧ slots + 24 ≤ 7164402) (hS : va_S (fun q => s.heap.size ≤ q) s.heap H locs) (hI : LInv D G N o c9 H) (hc9 : c9 < 512) (i : Nat) (hi : i + 4 ≤ L) (hl : lv_has ls 9 [(0, .ref b), (1, .ref N), (2, .ref (N + 104)), (3, .ref o), (4, .int (nI i))]) (kk : ∀ (H1 : Heap) (locs1 : List Loc) (ls1 : Array Slot), va_S (fun q => s.heap.size ≤ q) s.heap H1 locs1 → LInv D G N o (c9 + 1) H1 → lv_has ls1 9 [(0, .ref b), (1, .ref N), (2, .ref (N + 104)), (3, .ref o), (4, .int (nI i))] → W p l e room_1 s m #[Value.ref b] below meth c H1 locs1 (cells + 4) (slots + 24) Q (F0 m 1574 ls1 [])) : W p l e room_1 s m #[Value.ref b] below meth c H locs cells slots Q (F0 m 878 ls []) := by
  obtain ⟨hx, hb, hml, hown, hts, hK, hN, hE, hZ, hC, hl9, hN0, ho, hX, hbl, hL⟩ := C0
  obtain ⟨R, RS, N9, S, F, sv, n, len, kp, th, oo, m9, hDW, hMM, hLo, hg, hbu, hn6, hl6, hsv, hks, hm9⟩ := hI
  have hF : CallFix p m c cL_law 9 s #[Value.ref b] wsL_law RL := ⟨hx, hb, hml, hown, hts⟩
  have hα : inj 115 (al N o) := al_inj ho
  have hμ : inj 10 (mu N) := mu_inj N
  refine lv_aload_n hx hb dL_law_878 rfl (lv_at hl 1 rfl) ?_
  refine lv_aload_n hx hb dL_law_879 rfl (lv_at hl 3 rfl) ?_
  refine dpl_Si hF hK hN hE hZ hC (c_L_obey l hl9 D G (al N o) R RS kp sv n F len oo  _ hα hDW hLo hg hn6 hl6) (vx_cwSW 2 hts gL_law_L_obey rfl rfl rfl (by decide +kernel) ⟨Nat.le_of_ble_eq_true rfl, Nat.le_of_ble_eq_true rfl⟩) hS (fun q hq => al_ge hN0 ho hq) [] rfl rfl hl.1 (Nat.le_of_ble_eq_true rfl) dL_law_880 ⟨by show cells + 1 ≤ 643901; omega, by show slots + 6 ≤ 7164402; omega⟩ (fun r1 H1 locs hp hz1 hk1 hS => ?_)
  have hMM := hMM.cl ho (fun q hq => hq) hk1
  obtain ⟨rfl, hp1⟩ := hp
  rcases hp1 with ⟨h0, hDW, o2, ho2, hLo⟩ | ⟨h0, hDW, hLo⟩
  · refine lv_istore (lv' := [(5, .int (cObey F len)), (0, .ref b), (1, .ref N), (2, .ref (N + 104)), (3, .ref o), (4, .int (nI i))]) hx hb dL_law_883 hl (by decide) rfl (fun ls hl => ?_)
    refine lv_aload_n hx hb dL_law_885 rfl (lv_at hl 3 rfl) ?_
    obtain ⟨E, P, L1, L2, L3, la, sp, od, hs, hM⟩ := hMM
    refine dp_Vi hF hK hN (c_X6_obey l D G (mu N) R S N9 E P F L1 L2 L3 (nI n) kp th la (nI len) sp od hs n len  _ hμ hM hg rfl hn6 rfl hl6) (cwV 0 hts gL_law_X6_obey rfl rfl rfl (by decide +kernel) ⟨Nat.le_of_ble_eq_true rfl, Nat.le_of_ble_eq_true rfl⟩) (dp_recv hK hM.1 rfl) hS (fun q hq => mu_ge hN0 hq) [] rfl rfl hl.1 (Nat.le_of_ble_eq_true rfl) dL_law_886 ⟨by show cells + 1 ≤ 643901; omega, by show slots + 6 ≤ 7164402; omega⟩ (fun r9 H1 locs hp hzH1 hkH1 hS => ?_)
    have hDW := hDW.md ho hkH1
    have hLo := hLo.kept (hkH1 _ hLo.lt (A6_al (k := 114) ho (by omega) (by omega)))
    obtain ⟨-, rfl, hMM⟩ := hp.resolve_right (fun q => q.1 h0)
    refine lv_istore (lv' := [(6, .int (nI (oby F len 60 0 0 R).1)), (5, .int (cObey F len)), (0, .ref b), (1, .ref N), (2, .ref (N + 104)), (3, .ref o), (4, .int (nI i))]) hx hb dL_law_889 hl (by decide) rfl (fun ls hl => ?_)
    refine lv_aload_n hx hb dL_law_891 rfl (lv_at hl 4 rfl) ?_
    obtain ⟨E, P, L1, L2, L3, la, sp, od, hs, hM⟩ := hMM
    refine dp_Vi hF hK hN (c_X6_thrown l D G (mu N) (oby F len 60 0 0 R).2 (msv S R n) N9 E P F L1 L2 L3 (nI (svn n)) kp 0 la (nI 0) sp od hs _ hμ hM) (cwV 0 hts gL_law_X6_thrown rfl rfl rfl (by decide +kernel) ⟨Nat.le_of_ble_eq_true rfl, Nat.le_of_ble_eq_true rfl⟩) (dp_recv hK hM.1 rfl) hS nA_i [] rfl rfl hl.1 (Nat.le_of_ble_eq_true rfl) dL_law_892 ⟨by show cells + 1 ≤ 643901; omega, by show slots + 6 ≤ 7164402; omega⟩ (fun rH2 H2 locs hp hzH2 hkH2 hS => ?_)
    obtain ⟨rfl, rfl⟩ := hp
    have hMM := MM.of hM
    refine lv_iload hx hb dL_law_895 (lv_at hl 1 rfl) ?_
    refine lv_icmp_eq (tgt := 902) hx hb dL_law_897 (by decide) (fun c1 => ?_) (fun c1 => absurd h0.symm c1)
    refine lv_iload hx hb dL_law_902 (lv_at hl 1 rfl) ?_
    refine lv_if_ne (tgt := 919) hx hb dL_law_904 (by decide) (fun c2 => absurd c2 (fun q => q h0)) (fun c2 => ?_)
    refine lv_aload_n hx hb dL_law_907 rfl (lv_at hl 5 rfl) ?_
    refine lv_iconst (v := 0) hx hb dL_law_908 (by decide) ?_
    refine dp_lald hx hb hK hLo 4 rfl 0 rfl (by decide) (by decide) dL_law_909 ?_
    rw [ho2]
    refine lv_iload hx hb dL_law_910 (lv_at hl 0 rfl) ?_
    refine lv_i2l hx hb dL_law_912 rfl ?_
    refine W.lcmp hx hb dL_law_913 ?_
    refine lv_if_eq (tgt := 919) hx hb dL_law_914 (by decide) (fun c3 => ?_) (fun c3 => absurd (lg_self _) c3)
    refine lv_goto (tgt := 1574) hx hb dL_law_919 (by decide) ?_
    refine W.widen (k := cells + 4) (n := slots + 24) (by omega) (by omega) ?_
    exact kk _ _ _ hS ⟨(oby F len 60 0 0 R).2, RS, N9, (msv S R n), F, (svs sv n R), (svn n), 0, kp, _, _, (m9 + len), hDW, hMM, hLo, (gb_obey hg hbu h0).1, (bud_le (gb_obey hg hbu h0).2 (by omega)), (svn_le hn6), (by omega), ((hsv.save hn6 hg hbu).le (by omega)), (hks.le (by omega)), (by omega)⟩ (lv_sub hl [2, 3, 4, 5, 6] rfl)
  · refine lv_istore (lv' := [(5, .int (cObey F len)), (0, .ref b), (1, .ref N), (2, .ref (N + 104)), (3, .ref o), (4, .int (nI i))]) hx hb dL_law_883 hl (by decide) rfl (fun ls hl => ?_)
    refine lv_aload_n hx hb dL_law_885 rfl (lv_at hl 3 rfl) ?_
    obtain ⟨E, P, L1, L2, L3, la, sp, od, hs, hM⟩ := hMM
    refine dp_Vi hF hK hN (c_X6_obey l D G (mu N) R S N9 E P F L1 L2 L3 (nI n) kp th la (nI len) sp od hs n len  _ hμ hM hg rfl hn6 rfl hl6) (cwV 0 hts gL_law_X6_obey rfl rfl rfl (by decide +kernel) ⟨Nat.le_of_ble_eq_true rfl, Nat.le_of_ble_eq_true rfl⟩) (dp_recv hK hM.1 rfl) hS (fun q hq => mu_ge hN0 hq) [] rfl rfl hl.1 (Nat.le_of_ble_eq_true rfl) dL_law_886 ⟨by show cells + 1 ≤ 643901; omega, by show slots + 6 ≤ 7164402; omega⟩ (fun r9 H3 locs hp hzH3 hkH3 hS => ?_)
    have hDW := hDW.md ho hkH3
    have hLo := hLo.kept (hkH3 _ hLo.lt (A6_al (k := 114) ho (by omega) (by omega)))
    obtain ⟨-, hMM⟩ := hp.resolve_left (fun q => h0 q.1)
    refine lv_istore (lv' := [(6, .int r9), (5, .int (cObey F len)), (0, .ref b), (1, .ref N), (2, .ref (N + 104)), (3, .ref o), (4, .int (nI i))]) hx hb dL_law_889 hl (by decide) rfl (fun ls hl => ?_)
    refine lv_aload_n hx hb dL_law_891 rfl (lv_at hl 4 rfl) ?_
    obtain ⟨E, P, L1, L2, L3, la, sp, od, hs, hM⟩ := hMM
    refine dp_Vi hF hK hN (c_X6_thrown l D G (mu N) R S N9 E P F L1 L2 L3 (nI n) kp (cObey F len) la (nI len) sp od hs _ hμ hM) (cwV 0 hts gL_law_X6_thrown rfl rfl rfl (by decide +kernel) ⟨Nat.le_of_ble_eq_true rfl, Nat.le_of_ble_eq_true rfl⟩) (dp_recv hK hM.1 rfl) hS nA_i [] rfl rfl hl.1 (Nat.le_of_ble_eq_true rfl) dL_law_892 ⟨by show cells + 1 ≤ 643901; omega, by show slots + 6 ≤ 7164402; omega⟩ (fun rH4 H4 locs hp hzH4 hkH4 hS => ?_)
    obtain ⟨rfl, rfl⟩ := hp
    have hMM := MM.of hM
    refine lv_iload hx hb dL_law_895 (lv_at hl 1 rfl) ?_
    refine lv_icmp_eq (tgt := 902) hx hb dL_law_897 (by decide) (fun c4 => ?_) (fun c4 => absurd rfl c4)
    refine lv_iload hx hb dL_law_902 (lv_at hl 1 rfl) ?_
    refine lv_if_ne (tgt := 919) hx hb dL_law_904 (by decide) (fun c5 => ?_) (fun c5 => absurd c5 h0)
    refine lv_goto (tgt := 1574) hx hb dL_law_919 (by decide) ?_
    refine W.widen (k := cells + 4) (n := slots + 24) (by omega) (by omega) ?_
    exact kk _ _ _ hS ⟨R, RS, N9, S, F, sv, n, len, kp, _, _, m9, hDW, hMM, hLo, hg, hbu, hn6, hl6, hsv, hks, (by omega)⟩ (lv_sub hl [2, 3, 4, 5, 6] rfl)

set_option maxHeartbeats 1600000 in
set_option maxRecDepth 100000 in
theorem K_goBack {p : Program} {l : Launch} {e : Env} {s : State} {m : MethodId} {below : List Frame} {meth : Method} {c : Code} {D : va_G} {G : Nat → ClassId} {b N o L c9 : Nat} {xs : Nat → Int32} {Q : State → Prop} {H : Heap} {locs : List Loc} {cells slots : Nat} {ls : Array Slot} (C0 : LC p l s m b c D G N o L xs) (hcs : cells + 4 ≤ 643901 ∧ slots + 24 ≤ 7164402) (hS : va_S (fun q => s.heap.size ≤ q) s.heap H locs) (hI : LInv D G N o c9 H) (hc9 : c9 < 512) (i : Nat) (hi : i + 4 ≤ L) (hl : lv_has ls 9 [(0, .ref b), (1, .ref N), (2, .ref (N + 104)), (3, .ref o), (4, .int (nI i))]) (kk : ∀ (H1 : Heap) (locs1 : List Loc) (ls1 : Array Slot), va_S (fun q => s.heap.size ≤ q) s.heap H1 locs1 → LInv D G N o (c9 + 1) H1 → lv_has ls1 9 [(0, .ref b), (1, .ref N), (2, .ref (N + 104)), (3, .ref o), (4, .int (nI i))] → W p l e room_1 s m #[Value.ref b] below meth c H1 locs1 (cells + 4) (slots + 24) Q (F0 m 1574 ls1 [])) : W p l e room_1 s m #[Value.ref b] below meth c H locs cells slots Q (F0 m 935 ls []) := by
  obtain ⟨hx, hb, hml, hown, hts, hK, hN, hE, hZ, hC, hl9, hN0, ho, hX, hbl, hL⟩ := C0
  obtain ⟨R, RS, N9, S, F, sv, n, len, kp, th, oo, m9, hDW, hMM, hLo, hg, hbu, hn6, hl6, hsv, hks, hm9⟩ := hI
  have hF : CallFix p m c cL_law 9 s #[Value.ref b] wsL_law RL := ⟨hx, hb, hml, hown, hts⟩
  have hα : inj 115 (al N o) := al_inj ho
  have hμ : inj 10 (mu N) := mu_inj N
  refine lv_aload_n hx hb dL_law_935 rfl (lv_at hl 1 rfl) ?_
  refine lv_aload_n hx hb dL_law_936 rfl (lv_at hl 3 rfl) ?_
  refine dpl_Si hF hK hN hE hZ hC (c_L_goBack l hl9 D G (al N o) R RS kp sv n F len oo  _ hα hDW hLo hg hn6 hl6 (fun q => (hks q).2.1)) (vx_cwSW 2 hts gL_law_L_goBack rfl rfl rfl (by decide +kernel) ⟨Nat.le_of_ble_eq_true rfl, Nat.le_of_ble_eq_true rfl⟩) hS (fun q hq => al_ge hN0 ho hq) [] rfl rfl hl.1 (Nat.le_of_ble_eq_true rfl) dL_law_937 ⟨by show cells + 1 ≤ 643901; omega, by show slots + 6 ≤ 7164402; omega⟩ (fun r1 H1 locs hp hz1 hk1 hS => ?_)
  have hMM := hMM.cl ho (fun q hq => hq) hk1
  obtain ⟨rfl, hp1⟩ := hp
  rcases hp1 with ⟨h0, hDW, o2, ho2, hLo⟩ | ⟨h0, hDW, hLo⟩
  · refine lv_istore (lv' := [(5, .int (cBack kp)), (0, .ref b), (1, .ref N), (2, .ref (N + 104)), (3, .ref o), (4, .int (nI i))]) hx hb dL_law_940 hl (by decide) rfl (fun ls hl => ?_)
    refine lv_aload_n hx hb dL_law_942 rfl (lv_at hl 3 rfl) ?_
    obtain ⟨E, P, L1, L2, L3, la, sp, od, hs, hM⟩ := hMM
    refine dp_Vi hF hK hN (c_X6_goBack l D G (mu N) R S N9 E P F L1 L2 L3 (nI n) kp th la (nI len) sp od hs n  _ hμ hM rfl hn6) (cwV 0 hts gL_law_X6_goBack rfl rfl rfl (by decide +kernel) ⟨Nat.le_of_ble_eq_true rfl, Nat.le_of_ble_eq_true rfl⟩) (dp_recv hK hM.1 rfl) hS (fun q hq => mu_ge hN0 hq) [] rfl rfl hl.1 (Nat.le_of_ble_eq_true rfl) dL_law_943 ⟨by show cells + 1 ≤ 643901; omega, by show slots + 6 ≤ 7164402; omega⟩ (fun r9 H1 locs hp hzH1 hkH1 hS => ?_)
    have hDW := hDW.md ho hkH1
    have hLo := hLo.kept (hkH1 _ hLo.lt (A6_al (k := 114) ho (by omega) (by omega)))
    obtain ⟨-, rfl, hMM⟩ := hp.resolve_right (fun q => q.1 h0)
    have hMM := MM.of hMM
    obtain ⟨hk91, -, -⟩ := hks (cBack_k h0)
    subst hk91
    refine lv_istore (lv' := [(6, .int (N9 4)), (5, .int (cBack kp)), (0, .ref b), (1, .ref N), (2, .ref (N + 104)), (3, .ref o), (4, .int (nI i))]) hx hb dL_law_946 hl (by decide) rfl (fun ls hl => ?_)
    refine lv_aload_n hx hb dL_law_948 rfl (lv_at hl 4 rfl) ?_
    obtain ⟨E, P, L1, L2, L3, la, sp, od, hs, hM⟩ := hMM
    refine dp_Vi hF hK hN (c_X6_thrown l D G (mu N) N9 (msv S R n) N9 E P F L1 L2 L3 (nI (svn n)) kp 0 la (nI len) sp od hs _ hμ hM) (cwV 0 hts gL_law_X6_thrown rfl rfl rfl (by decide +kernel) ⟨Nat.le_of_ble_eq_true rfl, Nat.le_of_ble_eq_true rfl⟩) (dp_recv hK hM.1 rfl) hS nA_i [] rfl rfl hl.1 (Nat.le_of_ble_eq_true rfl) dL_law_949 ⟨by show cells + 1 ≤ 643901; omega, by show slots + 6 ≤ 7164402; omega⟩ (fun rH2 H2 locs hp hzH2 hkH2 hS => ?_)
    obtain ⟨rfl, rfl⟩ := hp
    have hMM := MM.of hM
    refine lv_iload hx hb dL_law_952 (lv_at hl 1 rfl) ?_
    refine lv_icmp_eq (tgt := 959) hx hb dL_law_954 (by decide) (fun c1 => ?_) (fun c1 => absurd h0.symm c1)
    refine lv_iload hx hb dL_law_959 (lv_at hl 1 rfl) ?_
    refine lv_if_ne (tgt := 976) hx hb dL_law_961 (by decide) (fun c2 => absurd c2 (fun q => q h0)) (fun c2 => ?_)
    refine lv_aload_n hx hb dL_law_964 rfl (lv_at hl 5 rfl) ?_
    refine lv_iconst (v := 0) hx hb dL_law_965 (by decide) ?_
    refine dp_lald hx hb hK hLo 4 rfl 0 rfl (by decide) (by decide) dL_law_966 ?_
    rw [ho2]
    refine lv_iload hx hb dL_law_967 (lv_at hl 0 rfl) ?_
    refine lv_i2l hx hb dL_law_969 rfl ?_
    refine W.lcmp hx hb dL_law_970 ?_
    refine lv_if_eq (tgt := 976) hx hb dL_law_971 (by decide) (fun c3 => ?_) (fun c3 => absurd (lg_self _) c3)
    refine lv_goto (tgt := 1574) hx hb dL_law_976 (by decide) ?_
    refine W.widen (k := cells + 4) (n := slots + 24) (by omega) (by omega) ?_
    exact kk _ _ _ hS ⟨N9, N9, N9, (msv S R n), F, (svs sv n R), (svn n), len, kp, _, _, m9, hDW, hMM, hLo, (hks (cBack_k h0)).2.1, (hks (cBack_k h0)).2.2, (svn_le hn6), hl6, (hsv.save hn6 hg hbu), hks, (by omega)⟩ (lv_sub hl [2, 3, 4, 5, 6] rfl)
  · refine lv_istore (lv' := [(5, .int (cBack kp)), (0, .ref b), (1, .ref N), (2, .ref (N + 104)), (3, .ref o), (4, .int (nI i))]) hx hb dL_law_940 hl (by decide) rfl (fun ls hl => ?_)
    refine lv_aload_n hx hb dL_law_942 rfl (lv_at hl 3 rfl) ?_
    obtain ⟨E, P, L1, L2, L3, la, sp, od, hs, hM⟩ := hMM
    refine dp_Vi hF hK hN (c_X6_goBack l D G (mu N) R S N9 E P F L1 L2 L3 (nI n) kp th la (nI len) sp od hs n  _ hμ hM rfl hn6) (cwV 0 hts gL_law_X6_goBack rfl rfl rfl (by decide +kernel) ⟨Nat.le_of_ble_eq_true rfl, Nat.le_of_ble_eq_true rfl⟩) (dp_recv hK hM.1 rfl) hS (fun q hq => mu_ge hN0 hq) [] rfl rfl hl.1 (Nat.le_of_ble_eq_true rfl) dL_law_943 ⟨by show cells + 1 ≤ 643901; omega, by show slots + 6 ≤ 7164402; omega⟩ (fun r9 H3 locs hp hzH3 hkH3 hS => ?_)
    have hDW := hDW.md ho hkH3
    have hLo := hLo.kept (hkH3 _ hLo.lt (A6_al (k := 114) ho (by omega) (by omega)))
    obtain ⟨-, hMM⟩ := hp.resolve_left (fun q => h0 q.1)
    have hMM := MM.of hMM
    refine lv_istore (lv' := [(6, .int r9), (5, .int (cBack kp)), (0, .ref b), (1, .ref N), (2, .ref (N + 104)), (3, .ref o), (4, .int (nI i))]) hx hb dL_law_946 hl (by decide) rfl (fun ls hl => ?_)
    refine lv_aload_n hx hb dL_law_948 rfl (lv_at hl 4 rfl) ?_
    obtain ⟨E, P, L1, L2, L3, la, sp, od, hs, hM⟩ := hMM
    refine dp_Vi hF hK hN (c_X6_thrown l D G (mu N) R S N9 E P F L1 L2 L3 (nI n) kp (cBack kp) la (nI len) sp od hs _ hμ hM) (cwV 0 hts gL_law_X6_thrown rfl rfl rfl (by decide +kernel) ⟨Nat.le_of_ble_eq_true rfl, Nat.le_of_ble_eq_true rfl⟩) (dp_recv hK hM.1 rfl) hS nA_i [] rfl rfl hl.1 (Nat.le_of_ble_eq_true rfl) dL_law_949 ⟨by show cells + 1 ≤ 643901; omega, by show slots + 6 ≤ 7164402; omega⟩ (fun rH4 H4 locs hp hzH4 hkH4 hS => ?_)
    obtain ⟨rfl, rfl⟩ := hp
    have hMM := MM.of hM
    refine lv_iload hx hb dL_law_952 (lv_at hl 1 rfl) ?_
    refine lv_icmp_eq (tgt := 959) hx hb dL_law_954 (by decide) (fun c4 => ?_) (fun c4 => absurd rfl c4)
    refine lv_iload hx hb dL_law_959 (lv_at hl 1 rfl) ?_
    refine lv_if_ne (tgt := 976) hx hb dL_law_961 (by decide) (fun c5 => ?_) (fun c5 => absurd c5 h0)
    refine lv_goto (tgt := 1574) hx hb dL_law_976 (by decide) ?_
    refine W.widen (k := cells + 4) (n := slots + 24) (by omega) (by omega) ?_
    exact kk _ _ _ hS ⟨R, RS, N9, S, F, sv, n, len, kp, _, _, m9, hDW, hMM, hLo, hg, hbu, hn6, hl6, hsv, hks, (by omega)⟩ (lv_sub hl [2, 3, 4, 5, 6] rfl)

set_option maxHeartbeats 1600000 in
set_option maxRecDepth 100000 in
theorem K_undo {p : Program} {l : Launch} {e : Env} {s : State} {m : MethodId} {below : List Frame} {meth : Method} {c : Code} {D : va_G} {G : Nat → ClassId} {b N o L c9 : Nat} {xs : Nat → Int32} {Q : State → Prop} {H : Heap} {locs : List Loc} {cells slots : Nat} {ls : Array Slot} (C0 : LC p l s m b c D G N o L xs) (hcs : cells + 4 ≤ 643901 ∧ slots + 24 ≤ 7164402) (hS : va_S (fun q => s.heap.size ≤ q) s.heap H locs) (hI : LInv D G N o c9 H) (hc9 : c9 < 512) (i : Nat) (hi : i + 4 ≤ L) (hl : lv_has ls 9 [(0, .ref b), (1, .ref N), (2, .ref (N + 104)), (3, .ref o), (4, .int (nI i))]) (kk : ∀ (H1 : Heap) (locs1 : List Loc) (ls1 : Array Slot), va_S (fun q => s.heap.size ≤ q) s.heap H1 locs1 → LInv D G N o (c9 + 1) H1 → lv_has ls1 9 [(0, .ref b), (1, .ref N), (2, .ref (N + 104)), (3, .ref o), (4, .int (nI i))] → W p l e room_1 s m #[Value.ref b] below meth c H1 locs1 (cells + 4) (slots + 24) Q (F0 m 1574 ls1 [])) : W p l e room_1 s m #[Value.ref b] below meth c H locs cells slots Q (F0 m 979 ls []) := by
  obtain ⟨hx, hb, hml, hown, hts, hK, hN, hE, hZ, hC, hl9, hN0, ho, hX, hbl, hL⟩ := C0
  obtain ⟨R, RS, N9, S, F, sv, n, len, kp, th, oo, m9, hDW, hMM, hLo, hg, hbu, hn6, hl6, hsv, hks, hm9⟩ := hI
  have hF : CallFix p m c cL_law 9 s #[Value.ref b] wsL_law RL := ⟨hx, hb, hml, hown, hts⟩
  have hα : inj 115 (al N o) := al_inj ho
  have hμ : inj 10 (mu N) := mu_inj N
  refine lv_aload_n hx hb dL_law_979 rfl (lv_at hl 1 rfl) ?_
  refine lv_aload_n hx hb dL_law_980 rfl (lv_at hl 3 rfl) ?_
  refine dpl_Si hF hK hN hE hZ hC (c_L_undo l hl9 D G (al N o) R RS kp sv n F len oo  _ hα hDW hLo hg hn6 hl6 (fun i hi => (hsv i hi).1)) (vx_cwSW 2 hts gL_law_L_undo rfl rfl rfl (by decide +kernel) ⟨Nat.le_of_ble_eq_true rfl, Nat.le_of_ble_eq_true rfl⟩) hS (fun q hq => al_ge hN0 ho hq) [] rfl rfl hl.1 (Nat.le_of_ble_eq_true rfl) dL_law_981 ⟨by show cells + 1 ≤ 643901; omega, by show slots + 6 ≤ 7164402; omega⟩ (fun r1 H1 locs hp hz1 hk1 hS => ?_)
  have hMM := hMM.cl ho (fun q hq => hq) hk1
  obtain ⟨rfl, hp1⟩ := hp
  rcases hp1 with ⟨h0, hDW, o2, ho2, hLo⟩ | ⟨h0, hDW, hLo⟩
  · refine lv_istore (lv' := [(5, .int (cUndo n)), (0, .ref b), (1, .ref N), (2, .ref (N + 104)), (3, .ref o), (4, .int (nI i))]) hx hb dL_law_984 hl (by decide) rfl (fun ls hl => ?_)
    refine lv_aload_n hx hb dL_law_986 rfl (lv_at hl 3 rfl) ?_
    obtain ⟨E, P, L1, L2, L3, la, sp, od, hs, hM⟩ := hMM
    refine dp_Vi hF hK hN (c_X6_undo l D G (mu N) R S N9 E P F L1 L2 L3 (nI n) kp th la (nI len) sp od hs n  _ hμ hM rfl hn6) (cwV 0 hts gL_law_X6_undo rfl rfl rfl (by decide +kernel) ⟨Nat.le_of_ble_eq_true rfl, Nat.le_of_ble_eq_true rfl⟩) (dp_recv hK hM.1 rfl) hS (fun q hq => mu_ge hN0 hq) [] rfl rfl hl.1 (Nat.le_of_ble_eq_true rfl) dL_law_987 ⟨by show cells + 1 ≤ 643901; omega, by show slots + 6 ≤ 7164402; omega⟩ (fun r9 H1 locs hp hzH1 hkH1 hS => ?_)
    have hDW := hDW.md ho hkH1
    have hLo := hLo.kept (hkH1 _ hLo.lt (A6_al (k := 114) ho (by omega) (by omega)))
    obtain ⟨-, rfl, hMM⟩ := hp.resolve_right (fun q => q.1 h0)
    have hMM := MM.of hMM
    have hMM := hMM.congR (R' := sv (n - 1)) (fun j hj => ((hsv (n - 1) (by have h9 := cUndo_n h0; omega)).2.2 j hj).symm)
    refine lv_istore (lv' := [(6, .int (nI (n - 1))), (5, .int (cUndo n)), (0, .ref b), (1, .ref N), (2, .ref (N + 104)), (3, .ref o), (4, .int (nI i))]) hx hb dL_law_990 hl (by decide) rfl (fun ls hl => ?_)
    refine lv_aload_n hx hb dL_law_992 rfl (lv_at hl 4 rfl) ?_
    obtain ⟨E, P, L1, L2, L3, la, sp, od, hs, hM⟩ := hMM
    refine dp_Vi hF hK hN (c_X6_thrown l D G (mu N) (sv (n - 1)) S N9 E P F L1 L2 L3 (nI (n - 1)) kp 0 la (nI len) sp od hs _ hμ hM) (cwV 0 hts gL_law_X6_thrown rfl rfl rfl (by decide +kernel) ⟨Nat.le_of_ble_eq_true rfl, Nat.le_of_ble_eq_true rfl⟩) (dp_recv hK hM.1 rfl) hS nA_i [] rfl rfl hl.1 (Nat.le_of_ble_eq_true rfl) dL_law_993 ⟨by show cells + 1 ≤ 643901; omega, by show slots + 6 ≤ 7164402; omega⟩ (fun rH2 H2 locs hp hzH2 hkH2 hS => ?_)
    obtain ⟨rfl, rfl⟩ := hp
    have hMM := MM.of hM
    refine lv_iload hx hb dL_law_996 (lv_at hl 1 rfl) ?_
    refine lv_icmp_eq (tgt := 1003) hx hb dL_law_998 (by decide) (fun c1 => ?_) (fun c1 => absurd h0.symm c1)
    refine lv_iload hx hb dL_law_1003 (lv_at hl 1 rfl) ?_
    refine lv_if_ne (tgt := 1020) hx hb dL_law_1005 (by decide) (fun c2 => absurd c2 (fun q => q h0)) (fun c2 => ?_)
    refine lv_aload_n hx hb dL_law_1008 rfl (lv_at hl 5 rfl) ?_
    refine lv_iconst (v := 0) hx hb dL_law_1009 (by decide) ?_
    refine dp_lald hx hb hK hLo 4 rfl 0 rfl (by decide) (by decide) dL_law_1010 ?_
    rw [ho2]
    refine lv_iload hx hb dL_law_1011 (lv_at hl 0 rfl) ?_
    refine lv_i2l hx hb dL_law_1013 rfl ?_
    refine W.lcmp hx hb dL_law_1014 ?_
    refine lv_if_eq (tgt := 1020) hx hb dL_law_1015 (by decide) (fun c3 => ?_) (fun c3 => absurd (lg_self _) c3)
    refine lv_goto (tgt := 1574) hx hb dL_law_1020 (by decide) ?_
    refine W.widen (k := cells + 4) (n := slots + 24) (by omega) (by omega) ?_
    exact kk _ _ _ hS ⟨(sv (n - 1)), RS, N9, S, F, sv, (n - 1), len, kp, _, _, m9, hDW, hMM, hLo, (hsv (n - 1) (by have h9 := cUndo_n h0; omega)).1, (hsv (n - 1) (by have h9 := cUndo_n h0; omega)).2.1, (by omega), hl6, (fun i hi => hsv i (by omega)), hks, (by omega)⟩ (lv_sub hl [2, 3, 4, 5, 6] rfl)
  · refine lv_istore (lv' := [(5, .int (cUndo n)), (0, .ref b), (1, .ref N), (2, .ref (N + 104)), (3, .ref o), (4, .int (nI i))]) hx hb dL_law_984 hl (by decide) rfl (fun ls hl => ?_)
    refine lv_aload_n hx hb dL_law_986 rfl (lv_at hl 3 rfl) ?_
    obtain ⟨E, P, L1, L2, L3, la, sp, od, hs, hM⟩ := hMM
    refine dp_Vi hF hK hN (c_X6_undo l D G (mu N) R S N9 E P F L1 L2 L3 (nI n) kp th la (nI len) sp od hs n  _ hμ hM rfl hn6) (cwV 0 hts gL_law_X6_undo rfl rfl rfl (by decide +kernel) ⟨Nat.le_of_ble_eq_true rfl, Nat.le_of_ble_eq_true rfl⟩) (dp_recv hK hM.1 rfl) hS (fun q hq => mu_ge hN0 hq) [] rfl rfl hl.1 (Nat.le_of_ble_eq_true rfl) dL_law_987 ⟨by show cells + 1 ≤ 643901; omega, by show slots + 6 ≤ 7164402; omega⟩ (fun r9 H3 locs hp hzH3 hkH3 hS => ?_)
    have hDW := hDW.md ho hkH3
    have hLo := hLo.kept (hkH3 _ hLo.lt (A6_al (k := 114) ho (by omega) (by omega)))
    obtain ⟨-, hMM⟩ := hp.resolve_left (fun q => h0 q.1)
    have hMM := MM.of hMM
    refine lv_istore (lv' := [(6, .int r9), (5, .int (cUndo n)), (0, .ref b), (1, .ref N), (2, .ref (N + 104)), (3, .ref o), (4, .int (nI i))]) hx hb dL_law_990 hl (by decide) rfl (fun ls hl => ?_)
    refine lv_aload_n hx hb dL_law_992 rfl (lv_at hl 4 rfl) ?_
    obtain ⟨E, P, L1, L2, L3, la, sp, od, hs, hM⟩ := hMM
    refine dp_Vi hF hK hN (c_X6_thrown l D G (mu N) R S N9 E P F L1 L2 L3 (nI n) kp (cUndo n) la (nI len) sp od hs _ hμ hM) (cwV 0 hts gL_law_X6_thrown rfl rfl rfl (by decide +kernel) ⟨Nat.le_of_ble_eq_true rfl, Nat.le_of_ble_eq_true rfl⟩) (dp_recv hK hM.1 rfl) hS nA_i [] rfl rfl hl.1 (Nat.le_of_ble_eq_true rfl) dL_law_993 ⟨by show cells + 1 ≤ 643901; omega, by show slots + 6 ≤ 7164402; omega⟩ (fun rH4 H4 locs hp hzH4 hkH4 hS => ?_)
    obtain ⟨rfl, rfl⟩ := hp
    have hMM := MM.of hM
    refine lv_iload hx hb dL_law_996 (lv_at hl 1 rfl) ?_
    refine lv_icmp_eq (tgt := 1003) hx hb dL_law_998 (by decide) (fun c4 => ?_) (fun c4 => absurd rfl c4)
    refine lv_iload hx hb dL_law_1003 (lv_at hl 1 rfl) ?_
    refine lv_if_ne (tgt := 1020) hx hb dL_law_1005 (by decide) (fun c5 => ?_) (fun c5 => absurd c5 h0)
    refine lv_goto (tgt := 1574) hx hb dL_law_1020 (by decide) ?_
    refine W.widen (k := cells + 4) (n := slots + 24) (by omega) (by omega) ?_
    exact kk _ _ _ hS ⟨R, RS, N9, S, F, sv, n, len, kp, _, _, m9, hDW, hMM, hLo, hg, hbu, hn6, hl6, hsv, hks, (by omega)⟩ (lv_sub hl [2, 3, 4, 5, 6] rfl)

set_option maxHeartbeats 1600000 in
set_option maxRecDepth 100000 in
theorem K_diesel {p : Program} {l : Launch} {e : Env} {s : State} {m : MethodId} {below : List Frame} {meth : Method} {c : Code} {D : va_G} {G : Nat → ClassId} {b N o L c9 : Nat} {xs : Nat → Int32} {Q : State → Prop} {H : Heap} {locs : List Loc} {cells slots : Nat} {ls : Array Slot} (C0 : LC p l s m b c D G N o L xs) (hcs : cells + 4 ≤ 643901 ∧ slots + 24 ≤ 7164402) (hS : va_S (fun q => s.heap.size ≤ q) s.heap H locs) (hI : LInv D G N o c9 H) (hc9 : c9 < 512) (i : Nat) (hi : i + 4 ≤ L) (hl : lv_has ls 9 [(0, .ref b), (1, .ref N), (2, .ref (N + 104)), (3, .ref o), (4, .int (nI i))]) (kk : ∀ (H1 : Heap) (locs1 : List Loc) (ls1 : Array Slot), va_S (fun q => s.heap.size ≤ q) s.heap H1 locs1 → LInv D G N o (c9 + 1) H1 → lv_has ls1 9 [(0, .ref b), (1, .ref N), (2, .ref (N + 104)), (3, .ref o), (4, .int (nI i))] → W p l e room_1 s m #[Value.ref b] below meth c H1 locs1 (cells + 4) (slots + 24) Q (F0 m 1574 ls1 [])) : W p l e room_1 s m #[Value.ref b] below meth c H locs cells slots Q (F0 m 1023 ls []) := by
  obtain ⟨hx, hb, hml, hown, hts, hK, hN, hE, hZ, hC, hl9, hN0, ho, hX, hbl, hL⟩ := C0
  obtain ⟨R, RS, N9, S, F, sv, n, len, kp, th, oo, m9, hDW, hMM, hLo, hg, hbu, hn6, hl6, hsv, hks, hm9⟩ := hI
  have hF : CallFix p m c cL_law 9 s #[Value.ref b] wsL_law RL := ⟨hx, hb, hml, hown, hts⟩
  have hα : inj 115 (al N o) := al_inj ho
  have hμ : inj 10 (mu N) := mu_inj N
  refine lv_aload_n hx hb dL_law_1023 rfl (lv_at hl 1 rfl) ?_
  refine lv_aload_n hx hb dL_law_1024 rfl (lv_at hl 0 rfl) ?_
  refine lv_iload hx hb dL_law_1025 (lv_at hl 4 rfl) ?_
  refine lv_iconst (v := 1) hx hb dL_law_1027 (by decide) ?_
  refine lv_iadd hx hb dL_law_1028 ?_
  rw [nI_1 i]
  refine va_sld hx hb hX hbl (Nat.not_le.mpr hbl) hS (vp_in_nI (n := (i + 1)) (N := L) (by omega) (by omega)) dL_law_1029 ?_
  rw [nI_clamp (n := (i + 1)) (by omega)]
  refine lv_aload_n hx hb dL_law_1030 rfl (lv_at hl 0 rfl) ?_
  refine lv_iload hx hb dL_law_1031 (lv_at hl 4 rfl) ?_
  refine lv_iconst (v := 2) hx hb dL_law_1033 (by decide) ?_
  refine lv_iadd hx hb dL_law_1034 ?_
  rw [nI_2 i]
  refine va_sld hx hb hX hbl (Nat.not_le.mpr hbl) hS (vp_in_nI (n := (i + 2)) (N := L) (by omega) (by omega)) dL_law_1035 ?_
  rw [nI_clamp (n := (i + 2)) (by omega)]
  refine lv_aload_n hx hb dL_law_1036 rfl (lv_at hl 3 rfl) ?_
  refine dpl_Si hF hK hN hE hZ hC (c_L_diesel l hl9 D G (al N o) R RS kp sv n F len oo (xs (i + 1)) (xs (i + 2)) _ hα hDW hLo hg hn6 hl6) (vx_cwSW 4 hts gL_law_L_diesel rfl rfl rfl (by decide +kernel) ⟨Nat.le_of_ble_eq_true rfl, Nat.le_of_ble_eq_true rfl⟩) hS (fun q hq => al_ge hN0 ho hq) [] rfl rfl hl.1 (Nat.le_of_ble_eq_true rfl) dL_law_1037 ⟨by show cells + 2 ≤ 643901; omega, by show slots + 12 ≤ 7164402; omega⟩ (fun r1 H1 locs hp hz1 hk1 hS => ?_)
  have hMM := hMM.cl ho (fun q hq => hq) hk1
  obtain ⟨rfl, hp1⟩ := hp
  rcases hp1 with ⟨h0, hDW, o2, ho2, hLo⟩ | ⟨h0, hDW, hLo⟩
  · refine lv_istore (lv' := [(5, .int (cLook (xs (i + 1)) (xs (i + 2)) 12)), (0, .ref b), (1, .ref N), (2, .ref (N + 104)), (3, .ref o), (4, .int (nI i))]) hx hb dL_law_1040 hl (by decide) rfl (fun ls hl => ?_)
    refine lv_aload_n hx hb dL_law_1042 rfl (lv_at hl 3 rfl) ?_
    refine lv_aload_n hx hb dL_law_1043 rfl (lv_at hl 1 rfl) ?_
    refine lv_iload hx hb dL_law_1044 (lv_at hl 5 rfl) ?_
    refine lv_iconst (v := 1) hx hb dL_law_1046 (by decide) ?_
    refine lv_iadd hx hb dL_law_1047 ?_
    rw [nI_1 i]
    refine va_sld hx hb hX hbl (Nat.not_le.mpr hbl) hS (vp_in_nI (n := (i + 1)) (N := L) (by omega) (by omega)) dL_law_1048 ?_
    rw [nI_clamp (n := (i + 1)) (by omega)]
    refine lv_aload_n hx hb dL_law_1049 rfl (lv_at hl 1 rfl) ?_
    refine lv_iload hx hb dL_law_1050 (lv_at hl 5 rfl) ?_
    refine lv_iconst (v := 2) hx hb dL_law_1052 (by decide) ?_
    refine lv_iadd hx hb dL_law_1053 ?_
    rw [nI_2 i]
    refine va_sld hx hb hX hbl (Nat.not_le.mpr hbl) hS (vp_in_nI (n := (i + 2)) (N := L) (by omega) (by omega)) dL_law_1054 ?_
    rw [nI_clamp (n := (i + 2)) (by omega)]
    obtain ⟨E, P, L1, L2, L3, la, sp, od, hs, hM⟩ := hMM
    refine dp_Vi hF hK hN (c_X6_diesel l D G (mu N) R S N9 E P F L1 L2 L3 (nI n) kp th la (nI len) sp od hs n (xs (i + 1)) (xs (i + 2)) _ hμ hM hg rfl hn6) (cwV 2 hts gL_law_X6_diesel rfl rfl rfl (by decide +kernel) ⟨Nat.le_of_ble_eq_true rfl, Nat.le_of_ble_eq_true rfl⟩) (dp_recv hK hM.1 rfl) hS (fun q hq => mu_ge hN0 hq) [] rfl rfl hl.1 (Nat.le_of_ble_eq_true rfl) dL_law_1055 ⟨by show cells + 2 ≤ 643901; omega, by show slots + 12 ≤ 7164402; omega⟩ (fun r9 H1 locs hp hzH1 hkH1 hS => ?_)
    have hDW := hDW.md ho hkH1
    have hLo := hLo.kept (hkH1 _ hLo.lt (A6_al (k := 114) ho (by omega) (by omega)))
    obtain ⟨-, rfl, hMM⟩ := hp.resolve_right (fun q => q.1 h0)
    refine lv_istore (lv' := [(6, .int (tset R (ix (xs (i + 1))) (xs (i + 2)))), (5, .int (cLook (xs (i + 1)) (xs (i + 2)) 12)), (0, .ref b), (1, .ref N), (2, .ref (N + 104)), (3, .ref o), (4, .int (nI i))]) hx hb dL_law_1058 hl (by decide) rfl (fun ls hl => ?_)
    refine lv_aload_n hx hb dL_law_1060 rfl (lv_at hl 4 rfl) ?_
    obtain ⟨E, P, L1, L2, L3, la, sp, od, hs, hM⟩ := hMM
    refine dp_Vi hF hK hN (c_X6_thrown l D G (mu N) R S N9 E P F L1 L2 L3 (nI n) kp 0 la (nI len) sp od hs _ hμ hM) (cwV 0 hts gL_law_X6_thrown rfl rfl rfl (by decide +kernel) ⟨Nat.le_of_ble_eq_true rfl, Nat.le_of_ble_eq_true rfl⟩) (dp_recv hK hM.1 rfl) hS nA_i [] rfl rfl hl.1 (Nat.le_of_ble_eq_true rfl) dL_law_1061 ⟨by show cells + 2 ≤ 643901; omega, by show slots + 12 ≤ 7164402; omega⟩ (fun rH2 H2 locs hp hzH2 hkH2 hS => ?_)
    obtain ⟨rfl, rfl⟩ := hp
    have hMM := MM.of hM
    refine lv_iload hx hb dL_law_1064 (lv_at hl 1 rfl) ?_
    refine lv_icmp_eq (tgt := 1071) hx hb dL_law_1066 (by decide) (fun c1 => ?_) (fun c1 => absurd h0.symm c1)
    refine lv_iload hx hb dL_law_1071 (lv_at hl 1 rfl) ?_
    refine lv_if_ne (tgt := 1088) hx hb dL_law_1073 (by decide) (fun c2 => absurd c2 (fun q => q h0)) (fun c2 => ?_)
    refine lv_aload_n hx hb dL_law_1076 rfl (lv_at hl 5 rfl) ?_
    refine lv_iconst (v := 0) hx hb dL_law_1077 (by decide) ?_
    refine dp_lald hx hb hK hLo 4 rfl 0 rfl (by decide) (by decide) dL_law_1078 ?_
    rw [ho2]
    refine lv_iload hx hb dL_law_1079 (lv_at hl 0 rfl) ?_
    refine lv_i2l hx hb dL_law_1081 rfl ?_
    refine W.lcmp hx hb dL_law_1082 ?_
    refine lv_if_eq (tgt := 1088) hx hb dL_law_1083 (by decide) (fun c3 => ?_) (fun c3 => absurd (lg_self _) c3)
    refine lv_goto (tgt := 1574) hx hb dL_law_1088 (by decide) ?_
    refine W.widen (k := cells + 4) (n := slots + 24) (by omega) (by omega) ?_
    exact kk _ _ _ hS ⟨R, RS, N9, S, F, sv, n, len, kp, _, _, m9, hDW, hMM, hLo, hg, hbu, hn6, hl6, hsv, hks, (by omega)⟩ (lv_sub hl [2, 3, 4, 5, 6] rfl)
  · refine lv_istore (lv' := [(5, .int (cLook (xs (i + 1)) (xs (i + 2)) 12)), (0, .ref b), (1, .ref N), (2, .ref (N + 104)), (3, .ref o), (4, .int (nI i))]) hx hb dL_law_1040 hl (by decide) rfl (fun ls hl => ?_)
    refine lv_aload_n hx hb dL_law_1042 rfl (lv_at hl 3 rfl) ?_
    refine lv_aload_n hx hb dL_law_1043 rfl (lv_at hl 1 rfl) ?_
    refine lv_iload hx hb dL_law_1044 (lv_at hl 5 rfl) ?_
    refine lv_iconst (v := 1) hx hb dL_law_1046 (by decide) ?_
    refine lv_iadd hx hb dL_law_1047 ?_
    rw [nI_1 i]
    refine va_sld hx hb hX hbl (Nat.not_le.mpr hbl) hS (vp_in_nI (n := (i + 1)) (N := L) (by omega) (by omega)) dL_law_1048 ?_
    rw [nI_clamp (n := (i + 1)) (by omega)]
    refine lv_aload_n hx hb dL_law_1049 rfl (lv_at hl 1 rfl) ?_
    refine lv_iload hx hb dL_law_1050 (lv_at hl 5 rfl) ?_
    refine lv_iconst (v := 2) hx hb dL_law_1052 (by decide) ?_
    refine lv_iadd hx hb dL_law_1053 ?_
    rw [nI_2 i]
    refine va_sld hx hb hX hbl (Nat.not_le.mpr hbl) hS (vp_in_nI (n := (i + 2)) (N := L) (by omega) (by omega)) dL_law_1054 ?_
    rw [nI_clamp (n := (i + 2)) (by omega)]
    obtain ⟨E, P, L1, L2, L3, la, sp, od, hs, hM⟩ := hMM
    refine dp_Vi hF hK hN (c_X6_diesel l D G (mu N) R S N9 E P F L1 L2 L3 (nI n) kp th la (nI len) sp od hs n (xs (i + 1)) (xs (i + 2)) _ hμ hM hg rfl hn6) (cwV 2 hts gL_law_X6_diesel rfl rfl rfl (by decide +kernel) ⟨Nat.le_of_ble_eq_true rfl, Nat.le_of_ble_eq_true rfl⟩) (dp_recv hK hM.1 rfl) hS (fun q hq => mu_ge hN0 hq) [] rfl rfl hl.1 (Nat.le_of_ble_eq_true rfl) dL_law_1055 ⟨by show cells + 2 ≤ 643901; omega, by show slots + 12 ≤ 7164402; omega⟩ (fun r9 H3 locs hp hzH3 hkH3 hS => ?_)
    have hDW := hDW.md ho hkH3
    have hLo := hLo.kept (hkH3 _ hLo.lt (A6_al (k := 114) ho (by omega) (by omega)))
    obtain ⟨-, hMM⟩ := hp.resolve_left (fun q => h0 q.1)
    refine lv_istore (lv' := [(6, .int r9), (5, .int (cLook (xs (i + 1)) (xs (i + 2)) 12)), (0, .ref b), (1, .ref N), (2, .ref (N + 104)), (3, .ref o), (4, .int (nI i))]) hx hb dL_law_1058 hl (by decide) rfl (fun ls hl => ?_)
    refine lv_aload_n hx hb dL_law_1060 rfl (lv_at hl 4 rfl) ?_
    obtain ⟨E, P, L1, L2, L3, la, sp, od, hs, hM⟩ := hMM
    refine dp_Vi hF hK hN (c_X6_thrown l D G (mu N) R S N9 E P F L1 L2 L3 (nI n) kp (cLook (xs (i + 1)) (xs (i + 2)) 12) la (nI len) sp od hs _ hμ hM) (cwV 0 hts gL_law_X6_thrown rfl rfl rfl (by decide +kernel) ⟨Nat.le_of_ble_eq_true rfl, Nat.le_of_ble_eq_true rfl⟩) (dp_recv hK hM.1 rfl) hS nA_i [] rfl rfl hl.1 (Nat.le_of_ble_eq_true rfl) dL_law_1061 ⟨by show cells + 2 ≤ 643901; omega, by show slots + 12 ≤ 7164402; omega⟩ (fun rH4 H4 locs hp hzH4 hkH4 hS => ?_)
    obtain ⟨rfl, rfl⟩ := hp
    have hMM := MM.of hM
    refine lv_iload hx hb dL_law_1064 (lv_at hl 1 rfl) ?_
    refine lv_icmp_eq (tgt := 1071) hx hb dL_law_1066 (by decide) (fun c4 => ?_) (fun c4 => absurd rfl c4)
    refine lv_iload hx hb dL_law_1071 (lv_at hl 1 rfl) ?_
    refine lv_if_ne (tgt := 1088) hx hb dL_law_1073 (by decide) (fun c5 => ?_) (fun c5 => absurd c5 h0)
    refine lv_goto (tgt := 1574) hx hb dL_law_1088 (by decide) ?_
    refine W.widen (k := cells + 4) (n := slots + 24) (by omega) (by omega) ?_
    exact kk _ _ _ hS ⟨R, RS, N9, S, F, sv, n, len, kp, _, _, m9, hDW, hMM, hLo, hg, hbu, hn6, hl6, hsv, hks, (by omega)⟩ (lv_sub hl [2, 3, 4, 5, 6] rfl)

set_option maxHeartbeats 1600000 in
set_option maxRecDepth 100000 in
theorem K_line {p : Program} {l : Launch} {e : Env} {s : State} {m : MethodId} {below : List Frame} {meth : Method} {c : Code} {D : va_G} {G : Nat → ClassId} {b N o L c9 : Nat} {xs : Nat → Int32} {Q : State → Prop} {H : Heap} {locs : List Loc} {cells slots : Nat} {ls : Array Slot} (C0 : LC p l s m b c D G N o L xs) (hcs : cells + 4 ≤ 643901 ∧ slots + 24 ≤ 7164402) (hS : va_S (fun q => s.heap.size ≤ q) s.heap H locs) (hI : LInv D G N o c9 H) (hc9 : c9 < 512) (i : Nat) (hi : i + 4 ≤ L) (hl : lv_has ls 9 [(0, .ref b), (1, .ref N), (2, .ref (N + 104)), (3, .ref o), (4, .int (nI i))]) (kk : ∀ (H1 : Heap) (locs1 : List Loc) (ls1 : Array Slot), va_S (fun q => s.heap.size ≤ q) s.heap H1 locs1 → LInv D G N o (c9 + 1) H1 → lv_has ls1 9 [(0, .ref b), (1, .ref N), (2, .ref (N + 104)), (3, .ref o), (4, .int (nI i))] → W p l e room_1 s m #[Value.ref b] below meth c H1 locs1 (cells + 4) (slots + 24) Q (F0 m 1574 ls1 [])) : W p l e room_1 s m #[Value.ref b] below meth c H locs cells slots Q (F0 m 1091 ls []) := by
  obtain ⟨hx, hb, hml, hown, hts, hK, hN, hE, hZ, hC, hl9, hN0, ho, hX, hbl, hL⟩ := C0
  obtain ⟨R, RS, N9, S, F, sv, n, len, kp, th, oo, m9, hDW, hMM, hLo, hg, hbu, hn6, hl6, hsv, hks, hm9⟩ := hI
  have hF : CallFix p m c cL_law 9 s #[Value.ref b] wsL_law RL := ⟨hx, hb, hml, hown, hts⟩
  have hα : inj 115 (al N o) := al_inj ho
  have hμ : inj 10 (mu N) := mu_inj N
  refine lv_aload_n hx hb dL_law_1091 rfl (lv_at hl 1 rfl) ?_
  refine lv_aload_n hx hb dL_law_1092 rfl (lv_at hl 0 rfl) ?_
  refine lv_iload hx hb dL_law_1093 (lv_at hl 4 rfl) ?_
  refine lv_iconst (v := 1) hx hb dL_law_1095 (by decide) ?_
  refine lv_iadd hx hb dL_law_1096 ?_
  rw [nI_1 i]
  refine va_sld hx hb hX hbl (Nat.not_le.mpr hbl) hS (vp_in_nI (n := (i + 1)) (N := L) (by omega) (by omega)) dL_law_1097 ?_
  rw [nI_clamp (n := (i + 1)) (by omega)]
  refine lv_aload_n hx hb dL_law_1098 rfl (lv_at hl 0 rfl) ?_
  refine lv_iload hx hb dL_law_1099 (lv_at hl 4 rfl) ?_
  refine lv_iconst (v := 2) hx hb dL_law_1101 (by decide) ?_
  refine lv_iadd hx hb dL_law_1102 ?_
  rw [nI_2 i]
  refine va_sld hx hb hX hbl (Nat.not_le.mpr hbl) hS (vp_in_nI (n := (i + 2)) (N := L) (by omega) (by omega)) dL_law_1103 ?_
  rw [nI_clamp (n := (i + 2)) (by omega)]
  refine lv_aload_n hx hb dL_law_1104 rfl (lv_at hl 3 rfl) ?_
  refine dpl_Si hF hK hN hE hZ hC (c_L_line l hl9 D G (al N o) R RS kp sv n F len oo (xs (i + 1)) (xs (i + 2)) _ hα hDW hLo hg hn6 hl6) (vx_cwSW 4 hts gL_law_L_line rfl rfl rfl (by decide +kernel) ⟨Nat.le_of_ble_eq_true rfl, Nat.le_of_ble_eq_true rfl⟩) hS (fun q hq => al_ge hN0 ho hq) [] rfl rfl hl.1 (Nat.le_of_ble_eq_true rfl) dL_law_1105 ⟨by show cells + 2 ≤ 643901; omega, by show slots + 12 ≤ 7164402; omega⟩ (fun r1 H1 locs hp hz1 hk1 hS => ?_)
  have hMM := hMM.cl ho (fun q hq => hq) hk1
  obtain ⟨rfl, hp1⟩ := hp
  rcases hp1 with ⟨h0, hDW, o2, ho2, hLo⟩ | ⟨h0, hDW, hLo⟩
  · refine lv_istore (lv' := [(5, .int (cLine (xs (i + 1)) (xs (i + 2)))), (0, .ref b), (1, .ref N), (2, .ref (N + 104)), (3, .ref o), (4, .int (nI i))]) hx hb dL_law_1108 hl (by decide) rfl (fun ls hl => ?_)
    refine lv_aload_n hx hb dL_law_1110 rfl (lv_at hl 3 rfl) ?_
    refine lv_aload_n hx hb dL_law_1111 rfl (lv_at hl 1 rfl) ?_
    refine lv_iload hx hb dL_law_1112 (lv_at hl 5 rfl) ?_
    refine lv_iconst (v := 1) hx hb dL_law_1114 (by decide) ?_
    refine lv_iadd hx hb dL_law_1115 ?_
    rw [nI_1 i]
    refine va_sld hx hb hX hbl (Nat.not_le.mpr hbl) hS (vp_in_nI (n := (i + 1)) (N := L) (by omega) (by omega)) dL_law_1116 ?_
    rw [nI_clamp (n := (i + 1)) (by omega)]
    refine lv_aload_n hx hb dL_law_1117 rfl (lv_at hl 1 rfl) ?_
    refine lv_iload hx hb dL_law_1118 (lv_at hl 5 rfl) ?_
    refine lv_iconst (v := 2) hx hb dL_law_1120 (by decide) ?_
    refine lv_iadd hx hb dL_law_1121 ?_
    rw [nI_2 i]
    refine va_sld hx hb hX hbl (Nat.not_le.mpr hbl) hS (vp_in_nI (n := (i + 2)) (N := L) (by omega) (by omega)) dL_law_1122 ?_
    rw [nI_clamp (n := (i + 2)) (by omega)]
    obtain ⟨E, P, L1, L2, L3, la, sp, od, hs, hM⟩ := hMM
    refine dp_Vi hF hK hN (c_X6_line l D G (mu N) R S N9 E P F L1 L2 L3 (nI n) kp th la (nI len) sp od hs n (xs (i + 1)) (xs (i + 2)) _ hμ hM hg rfl hn6) (cwV 2 hts gL_law_X6_line rfl rfl rfl (by decide +kernel) ⟨Nat.le_of_ble_eq_true rfl, Nat.le_of_ble_eq_true rfl⟩) (dp_recv hK hM.1 rfl) hS (fun q hq => mu_ge hN0 hq) [] rfl rfl hl.1 (Nat.le_of_ble_eq_true rfl) dL_law_1123 ⟨by show cells + 2 ≤ 643901; omega, by show slots + 12 ≤ 7164402; omega⟩ (fun r9 H1 locs hp hzH1 hkH1 hS => ?_)
    have hDW := hDW.md ho hkH1
    have hLo := hLo.kept (hkH1 _ hLo.lt (A6_al (k := 114) ho (by omega) (by omega)))
    obtain ⟨-, rfl, hMM⟩ := hp.resolve_right (fun q => q.1 h0)
    refine lv_istore (lv' := [(6, .int (tfee R (ix (xs (i + 1))) (xs (i + 2)))), (5, .int (cLine (xs (i + 1)) (xs (i + 2)))), (0, .ref b), (1, .ref N), (2, .ref (N + 104)), (3, .ref o), (4, .int (nI i))]) hx hb dL_law_1126 hl (by decide) rfl (fun ls hl => ?_)
    refine lv_aload_n hx hb dL_law_1128 rfl (lv_at hl 4 rfl) ?_
    obtain ⟨E, P, L1, L2, L3, la, sp, od, hs, hM⟩ := hMM
    refine dp_Vi hF hK hN (c_X6_thrown l D G (mu N) R S N9 E P F L1 L2 L3 (nI n) kp 0 la (nI len) sp od hs _ hμ hM) (cwV 0 hts gL_law_X6_thrown rfl rfl rfl (by decide +kernel) ⟨Nat.le_of_ble_eq_true rfl, Nat.le_of_ble_eq_true rfl⟩) (dp_recv hK hM.1 rfl) hS nA_i [] rfl rfl hl.1 (Nat.le_of_ble_eq_true rfl) dL_law_1129 ⟨by show cells + 2 ≤ 643901; omega, by show slots + 12 ≤ 7164402; omega⟩ (fun rH2 H2 locs hp hzH2 hkH2 hS => ?_)
    obtain ⟨rfl, rfl⟩ := hp
    have hMM := MM.of hM
    refine lv_iload hx hb dL_law_1132 (lv_at hl 1 rfl) ?_
    refine lv_icmp_eq (tgt := 1139) hx hb dL_law_1134 (by decide) (fun c1 => ?_) (fun c1 => absurd h0.symm c1)
    refine lv_iload hx hb dL_law_1139 (lv_at hl 1 rfl) ?_
    refine lv_if_ne (tgt := 1156) hx hb dL_law_1141 (by decide) (fun c2 => absurd c2 (fun q => q h0)) (fun c2 => ?_)
    refine lv_aload_n hx hb dL_law_1144 rfl (lv_at hl 5 rfl) ?_
    refine lv_iconst (v := 0) hx hb dL_law_1145 (by decide) ?_
    refine dp_lald hx hb hK hLo 4 rfl 0 rfl (by decide) (by decide) dL_law_1146 ?_
    rw [ho2]
    refine lv_iload hx hb dL_law_1147 (lv_at hl 0 rfl) ?_
    refine lv_i2l hx hb dL_law_1149 rfl ?_
    refine W.lcmp hx hb dL_law_1150 ?_
    refine lv_if_eq (tgt := 1156) hx hb dL_law_1151 (by decide) (fun c3 => ?_) (fun c3 => absurd (lg_self _) c3)
    refine lv_goto (tgt := 1574) hx hb dL_law_1156 (by decide) ?_
    refine W.widen (k := cells + 4) (n := slots + 24) (by omega) (by omega) ?_
    exact kk _ _ _ hS ⟨R, RS, N9, S, F, sv, n, len, kp, _, _, m9, hDW, hMM, hLo, hg, hbu, hn6, hl6, hsv, hks, (by omega)⟩ (lv_sub hl [2, 3, 4, 5, 6] rfl)
  · refine lv_istore (lv' := [(5, .int (cLine (xs (i + 1)) (xs (i + 2)))), (0, .ref b), (1, .ref N), (2, .ref (N + 104)), (3, .ref o), (4, .int (nI i))]) hx hb dL_law_1108 hl (by decide) rfl (fun ls hl => ?_)
    refine lv_aload_n hx hb dL_law_1110 rfl (lv_at hl 3 rfl) ?_
    refine lv_aload_n hx hb dL_law_1111 rfl (lv_at hl 1 rfl) ?_
    refine lv_iload hx hb dL_law_1112 (lv_at hl 5 rfl) ?_
    refine lv_iconst (v := 1) hx hb dL_law_1114 (by decide) ?_
    refine lv_iadd hx hb dL_law_1115 ?_
    rw [nI_1 i]
    refine va_sld hx hb hX hbl (Nat.not_le.mpr hbl) hS (vp_in_nI (n := (i + 1)) (N := L) (by omega) (by omega)) dL_law_1116 ?_
    rw [nI_clamp (n := (i + 1)) (by omega)]
    refine lv_aload_n hx hb dL_law_1117 rfl (lv_at hl 1 rfl) ?_
    refine lv_iload hx hb dL_law_1118 (lv_at hl 5 rfl) ?_
    refine lv_iconst (v := 2) hx hb dL_law_1120 (by decide) ?_
    refine lv_iadd hx hb dL_law_1121 ?_
    rw [nI_2 i]
    refine va_sld hx hb hX hbl (Nat.not_le.mpr hbl) hS (vp_in_nI (n := (i + 2)) (N := L) (by omega) (by omega)) dL_law_1122 ?_
    rw [nI_clamp (n := (i + 2)) (by omega)]
    obtain ⟨E, P, L1, L2, L3, la, sp, od, hs, hM⟩ := hMM
    refine dp_Vi hF hK hN (c_X6_line l D G (mu N) R S N9 E P F L1 L2 L3 (nI n) kp th la (nI len) sp od hs n (xs (i + 1)) (xs (i + 2)) _ hμ hM hg rfl hn6) (cwV 2 hts gL_law_X6_line rfl rfl rfl (by decide +kernel) ⟨Nat.le_of_ble_eq_true rfl, Nat.le_of_ble_eq_true rfl⟩) (dp_recv hK hM.1 rfl) hS (fun q hq => mu_ge hN0 hq) [] rfl rfl hl.1 (Nat.le_of_ble_eq_true rfl) dL_law_1123 ⟨by show cells + 2 ≤ 643901; omega, by show slots + 12 ≤ 7164402; omega⟩ (fun r9 H3 locs hp hzH3 hkH3 hS => ?_)
    have hDW := hDW.md ho hkH3
    have hLo := hLo.kept (hkH3 _ hLo.lt (A6_al (k := 114) ho (by omega) (by omega)))
    obtain ⟨-, hMM⟩ := hp.resolve_left (fun q => h0 q.1)
    refine lv_istore (lv' := [(6, .int r9), (5, .int (cLine (xs (i + 1)) (xs (i + 2)))), (0, .ref b), (1, .ref N), (2, .ref (N + 104)), (3, .ref o), (4, .int (nI i))]) hx hb dL_law_1126 hl (by decide) rfl (fun ls hl => ?_)
    refine lv_aload_n hx hb dL_law_1128 rfl (lv_at hl 4 rfl) ?_
    obtain ⟨E, P, L1, L2, L3, la, sp, od, hs, hM⟩ := hMM
    refine dp_Vi hF hK hN (c_X6_thrown l D G (mu N) R S N9 E P F L1 L2 L3 (nI n) kp (cLine (xs (i + 1)) (xs (i + 2))) la (nI len) sp od hs _ hμ hM) (cwV 0 hts gL_law_X6_thrown rfl rfl rfl (by decide +kernel) ⟨Nat.le_of_ble_eq_true rfl, Nat.le_of_ble_eq_true rfl⟩) (dp_recv hK hM.1 rfl) hS nA_i [] rfl rfl hl.1 (Nat.le_of_ble_eq_true rfl) dL_law_1129 ⟨by show cells + 2 ≤ 643901; omega, by show slots + 12 ≤ 7164402; omega⟩ (fun rH4 H4 locs hp hzH4 hkH4 hS => ?_)
    obtain ⟨rfl, rfl⟩ := hp
    have hMM := MM.of hM
    refine lv_iload hx hb dL_law_1132 (lv_at hl 1 rfl) ?_
    refine lv_icmp_eq (tgt := 1139) hx hb dL_law_1134 (by decide) (fun c4 => ?_) (fun c4 => absurd rfl c4)
    refine lv_iload hx hb dL_law_1139 (lv_at hl 1 rfl) ?_
    refine lv_if_ne (tgt := 1156) hx hb dL_law_1141 (by decide) (fun c5 => ?_) (fun c5 => absurd c5 h0)
    refine lv_goto (tgt := 1574) hx hb dL_law_1156 (by decide) ?_
    refine W.widen (k := cells + 4) (n := slots + 24) (by omega) (by omega) ?_
    exact kk _ _ _ hS ⟨R, RS, N9, S, F, sv, n, len, kp, _, _, m9, hDW, hMM, hLo, hg, hbu, hn6, hl6, hsv, hks, (by omega)⟩ (lv_sub hl [2, 3, 4, 5, 6] rfl)

set_option maxHeartbeats 1600000 in
set_option maxRecDepth 100000 in
theorem K_count {p : Program} {l : Launch} {e : Env} {s : State} {m : MethodId} {below : List Frame} {meth : Method} {c : Code} {D : va_G} {G : Nat → ClassId} {b N o L c9 : Nat} {xs : Nat → Int32} {Q : State → Prop} {H : Heap} {locs : List Loc} {cells slots : Nat} {ls : Array Slot} (C0 : LC p l s m b c D G N o L xs) (hcs : cells + 4 ≤ 643901 ∧ slots + 24 ≤ 7164402) (hS : va_S (fun q => s.heap.size ≤ q) s.heap H locs) (hI : LInv D G N o c9 H) (hc9 : c9 < 512) (i : Nat) (hi : i + 4 ≤ L) (hl : lv_has ls 9 [(0, .ref b), (1, .ref N), (2, .ref (N + 104)), (3, .ref o), (4, .int (nI i))]) (kk : ∀ (H1 : Heap) (locs1 : List Loc) (ls1 : Array Slot), va_S (fun q => s.heap.size ≤ q) s.heap H1 locs1 → LInv D G N o (c9 + 1) H1 → lv_has ls1 9 [(0, .ref b), (1, .ref N), (2, .ref (N + 104)), (3, .ref o), (4, .int (nI i))] → W p l e room_1 s m #[Value.ref b] below meth c H1 locs1 (cells + 4) (slots + 24) Q (F0 m 1574 ls1 [])) : W p l e room_1 s m #[Value.ref b] below meth c H locs cells slots Q (F0 m 1159 ls []) := by
  obtain ⟨hx, hb, hml, hown, hts, hK, hN, hE, hZ, hC, hl9, hN0, ho, hX, hbl, hL⟩ := C0
  obtain ⟨R, RS, N9, S, F, sv, n, len, kp, th, oo, m9, hDW, hMM, hLo, hg, hbu, hn6, hl6, hsv, hks, hm9⟩ := hI
  have hF : CallFix p m c cL_law 9 s #[Value.ref b] wsL_law RL := ⟨hx, hb, hml, hown, hts⟩
  have hα : inj 115 (al N o) := al_inj ho
  have hμ : inj 10 (mu N) := mu_inj N
  refine lv_aload_n hx hb dL_law_1159 rfl (lv_at hl 1 rfl) ?_
  refine lv_aload_n hx hb dL_law_1160 rfl (lv_at hl 0 rfl) ?_
  refine lv_iload hx hb dL_law_1161 (lv_at hl 4 rfl) ?_
  refine lv_iconst (v := 1) hx hb dL_law_1163 (by decide) ?_
  refine lv_iadd hx hb dL_law_1164 ?_
  rw [nI_1 i]
  refine va_sld hx hb hX hbl (Nat.not_le.mpr hbl) hS (vp_in_nI (n := (i + 1)) (N := L) (by omega) (by omega)) dL_law_1165 ?_
  rw [nI_clamp (n := (i + 1)) (by omega)]
  refine lv_aload_n hx hb dL_law_1166 rfl (lv_at hl 3 rfl) ?_
  refine dpl_Si hF hK hN hE hZ hC (c_L_count l hl9 D G (al N o) R RS kp sv n F len oo (xs (i + 1)) _ hα hDW hLo hg hn6 hl6) (vx_cwSW 3 hts gL_law_L_count rfl rfl rfl (by decide +kernel) ⟨Nat.le_of_ble_eq_true rfl, Nat.le_of_ble_eq_true rfl⟩) hS (fun q hq => al_ge hN0 ho hq) [] rfl rfl hl.1 (Nat.le_of_ble_eq_true rfl) dL_law_1167 ⟨by show cells + 1 ≤ 643901; omega, by show slots + 6 ≤ 7164402; omega⟩ (fun r1 H1 locs hp hz1 hk1 hS => ?_)
  have hMM := hMM.cl ho (fun q hq => hq) hk1
  obtain ⟨rfl, hp1⟩ := hp
  rcases hp1 with ⟨h0, hDW, o2, ho2, hLo⟩ | ⟨h0, hDW, hLo⟩
  · refine lv_istore (lv' := [(5, .int (cCount (xs (i + 1)))), (0, .ref b), (1, .ref N), (2, .ref (N + 104)), (3, .ref o), (4, .int (nI i))]) hx hb dL_law_1170 hl (by decide) rfl (fun ls hl => ?_)
    refine lv_aload_n hx hb dL_law_1172 rfl (lv_at hl 3 rfl) ?_
    refine lv_aload_n hx hb dL_law_1173 rfl (lv_at hl 1 rfl) ?_
    refine lv_iload hx hb dL_law_1174 (lv_at hl 5 rfl) ?_
    refine lv_iconst (v := 1) hx hb dL_law_1176 (by decide) ?_
    refine lv_iadd hx hb dL_law_1177 ?_
    rw [nI_1 i]
    refine va_sld hx hb hX hbl (Nat.not_le.mpr hbl) hS (vp_in_nI (n := (i + 1)) (N := L) (by omega) (by omega)) dL_law_1178 ?_
    rw [nI_clamp (n := (i + 1)) (by omega)]
    obtain ⟨E, P, L1, L2, L3, la, sp, od, hs, hM⟩ := hMM
    refine dp_Vi hF hK hN (c_X6_count l D G (mu N) R S N9 E P F L1 L2 L3 (nI n) kp th la (nI len) sp od hs n (xs (i + 1)) _ hμ hM hg rfl hn6) (cwV 1 hts gL_law_X6_count rfl rfl rfl (by decide +kernel) ⟨Nat.le_of_ble_eq_true rfl, Nat.le_of_ble_eq_true rfl⟩) (dp_recv hK hM.1 rfl) hS (fun q hq => mu_ge hN0 hq) [] rfl rfl hl.1 (Nat.le_of_ble_eq_true rfl) dL_law_1179 ⟨by show cells + 1 ≤ 643901; omega, by show slots + 6 ≤ 7164402; omega⟩ (fun r9 H1 locs hp hzH1 hkH1 hS => ?_)
    have hDW := hDW.md ho hkH1
    have hLo := hLo.kept (hkH1 _ hLo.lt (A6_al (k := 114) ho (by omega) (by omega)))
    obtain ⟨-, rfl, hMM⟩ := hp.resolve_right (fun q => q.1 h0)
    refine lv_istore (lv' := [(6, .int (tcnt R n (xs (i + 1)))), (5, .int (cCount (xs (i + 1)))), (0, .ref b), (1, .ref N), (2, .ref (N + 104)), (3, .ref o), (4, .int (nI i))]) hx hb dL_law_1182 hl (by decide) rfl (fun ls hl => ?_)
    refine lv_aload_n hx hb dL_law_1184 rfl (lv_at hl 4 rfl) ?_
    obtain ⟨E, P, L1, L2, L3, la, sp, od, hs, hM⟩ := hMM
    refine dp_Vi hF hK hN (c_X6_thrown l D G (mu N) R S N9 E P F L1 L2 L3 (nI n) kp 0 la (nI len) sp od hs _ hμ hM) (cwV 0 hts gL_law_X6_thrown rfl rfl rfl (by decide +kernel) ⟨Nat.le_of_ble_eq_true rfl, Nat.le_of_ble_eq_true rfl⟩) (dp_recv hK hM.1 rfl) hS nA_i [] rfl rfl hl.1 (Nat.le_of_ble_eq_true rfl) dL_law_1185 ⟨by show cells + 1 ≤ 643901; omega, by show slots + 6 ≤ 7164402; omega⟩ (fun rH2 H2 locs hp hzH2 hkH2 hS => ?_)
    obtain ⟨rfl, rfl⟩ := hp
    have hMM := MM.of hM
    refine lv_iload hx hb dL_law_1188 (lv_at hl 1 rfl) ?_
    refine lv_icmp_eq (tgt := 1195) hx hb dL_law_1190 (by decide) (fun c1 => ?_) (fun c1 => absurd h0.symm c1)
    refine lv_iload hx hb dL_law_1195 (lv_at hl 1 rfl) ?_
    refine lv_if_ne (tgt := 1212) hx hb dL_law_1197 (by decide) (fun c2 => absurd c2 (fun q => q h0)) (fun c2 => ?_)
    refine lv_aload_n hx hb dL_law_1200 rfl (lv_at hl 5 rfl) ?_
    refine lv_iconst (v := 0) hx hb dL_law_1201 (by decide) ?_
    refine dp_lald hx hb hK hLo 4 rfl 0 rfl (by decide) (by decide) dL_law_1202 ?_
    rw [ho2]
    refine lv_iload hx hb dL_law_1203 (lv_at hl 0 rfl) ?_
    refine lv_i2l hx hb dL_law_1205 rfl ?_
    refine W.lcmp hx hb dL_law_1206 ?_
    refine lv_if_eq (tgt := 1212) hx hb dL_law_1207 (by decide) (fun c3 => ?_) (fun c3 => absurd (lg_self _) c3)
    refine lv_goto (tgt := 1574) hx hb dL_law_1212 (by decide) ?_
    refine W.widen (k := cells + 4) (n := slots + 24) (by omega) (by omega) ?_
    exact kk _ _ _ hS ⟨R, RS, N9, S, F, sv, n, len, kp, _, _, m9, hDW, hMM, hLo, hg, hbu, hn6, hl6, hsv, hks, (by omega)⟩ (lv_sub hl [2, 3, 4, 5, 6] rfl)
  · refine lv_istore (lv' := [(5, .int (cCount (xs (i + 1)))), (0, .ref b), (1, .ref N), (2, .ref (N + 104)), (3, .ref o), (4, .int (nI i))]) hx hb dL_law_1170 hl (by decide) rfl (fun ls hl => ?_)
    refine lv_aload_n hx hb dL_law_1172 rfl (lv_at hl 3 rfl) ?_
    refine lv_aload_n hx hb dL_law_1173 rfl (lv_at hl 1 rfl) ?_
    refine lv_iload hx hb dL_law_1174 (lv_at hl 5 rfl) ?_
    refine lv_iconst (v := 1) hx hb dL_law_1176 (by decide) ?_
    refine lv_iadd hx hb dL_law_1177 ?_
    rw [nI_1 i]
    refine va_sld hx hb hX hbl (Nat.not_le.mpr hbl) hS (vp_in_nI (n := (i + 1)) (N := L) (by omega) (by omega)) dL_law_1178 ?_
    rw [nI_clamp (n := (i + 1)) (by omega)]
    obtain ⟨E, P, L1, L2, L3, la, sp, od, hs, hM⟩ := hMM
    refine dp_Vi hF hK hN (c_X6_count l D G (mu N) R S N9 E P F L1 L2 L3 (nI n) kp th la (nI len) sp od hs n (xs (i + 1)) _ hμ hM hg rfl hn6) (cwV 1 hts gL_law_X6_count rfl rfl rfl (by decide +kernel) ⟨Nat.le_of_ble_eq_true rfl, Nat.le_of_ble_eq_true rfl⟩) (dp_recv hK hM.1 rfl) hS (fun q hq => mu_ge hN0 hq) [] rfl rfl hl.1 (Nat.le_of_ble_eq_true rfl) dL_law_1179 ⟨by show cells + 1 ≤ 643901; omega, by show slots + 6 ≤ 7164402; omega⟩ (fun r9 H3 locs hp hzH3 hkH3 hS => ?_)
    have hDW := hDW.md ho hkH3
    have hLo := hLo.kept (hkH3 _ hLo.lt (A6_al (k := 114) ho (by omega) (by omega)))
    obtain ⟨-, hMM⟩ := hp.resolve_left (fun q => h0 q.1)
    refine lv_istore (lv' := [(6, .int r9), (5, .int (cCount (xs (i + 1)))), (0, .ref b), (1, .ref N), (2, .ref (N + 104)), (3, .ref o), (4, .int (nI i))]) hx hb dL_law_1182 hl (by decide) rfl (fun ls hl => ?_)
    refine lv_aload_n hx hb dL_law_1184 rfl (lv_at hl 4 rfl) ?_
    obtain ⟨E, P, L1, L2, L3, la, sp, od, hs, hM⟩ := hMM
    refine dp_Vi hF hK hN (c_X6_thrown l D G (mu N) R S N9 E P F L1 L2 L3 (nI n) kp (cCount (xs (i + 1))) la (nI len) sp od hs _ hμ hM) (cwV 0 hts gL_law_X6_thrown rfl rfl rfl (by decide +kernel) ⟨Nat.le_of_ble_eq_true rfl, Nat.le_of_ble_eq_true rfl⟩) (dp_recv hK hM.1 rfl) hS nA_i [] rfl rfl hl.1 (Nat.le_of_ble_eq_true rfl) dL_law_1185 ⟨by show cells + 1 ≤ 643901; omega, by show slots + 6 ≤ 7164402; omega⟩ (fun rH4 H4 locs hp hzH4 hkH4 hS => ?_)
    obtain ⟨rfl, rfl⟩ := hp
    have hMM := MM.of hM
    refine lv_iload hx hb dL_law_1188 (lv_at hl 1 rfl) ?_
    refine lv_icmp_eq (tgt := 1195) hx hb dL_law_1190 (by decide) (fun c4 => ?_) (fun c4 => absurd rfl c4)
    refine lv_iload hx hb dL_law_1195 (lv_at hl 1 rfl) ?_
    refine lv_if_ne (tgt := 1212) hx hb dL_law_1197 (by decide) (fun c5 => ?_) (fun c5 => absurd c5 h0)
    refine lv_goto (tgt := 1574) hx hb dL_law_1212 (by decide) ?_
    refine W.widen (k := cells + 4) (n := slots + 24) (by omega) (by omega) ?_
    exact kk _ _ _ hS ⟨R, RS, N9, S, F, sv, n, len, kp, _, _, m9, hDW, hMM, hLo, hg, hbu, hn6, hl6, hsv, hks, (by omega)⟩ (lv_sub hl [2, 3, 4, 5, 6] rfl)

set_option maxHeartbeats 1600000 in
set_option maxRecDepth 100000 in
theorem K_setting {p : Program} {l : Launch} {e : Env} {s : State} {m : MethodId} {below : List Frame} {meth : Method} {c : Code} {D : va_G} {G : Nat → ClassId} {b N o L c9 : Nat} {xs : Nat → Int32} {Q : State → Prop} {H : Heap} {locs : List Loc} {cells slots : Nat} {ls : Array Slot} (C0 : LC p l s m b c D G N o L xs) (hcs : cells + 4 ≤ 643901 ∧ slots + 24 ≤ 7164402) (hS : va_S (fun q => s.heap.size ≤ q) s.heap H locs) (hI : LInv D G N o c9 H) (hc9 : c9 < 512) (i : Nat) (hi : i + 4 ≤ L) (hl : lv_has ls 9 [(0, .ref b), (1, .ref N), (2, .ref (N + 104)), (3, .ref o), (4, .int (nI i))]) (kk : ∀ (H1 : Heap) (locs1 : List Loc) (ls1 : Array Slot), va_S (fun q => s.heap.size ≤ q) s.heap H1 locs1 → LInv D G N o (c9 + 1) H1 → lv_has ls1 9 [(0, .ref b), (1, .ref N), (2, .ref (N + 104)), (3, .ref o), (4, .int (nI i))] → W p l e room_1 s m #[Value.ref b] below meth c H1 locs1 (cells + 4) (slots + 24) Q (F0 m 1574 ls1 [])) : W p l e room_1 s m #[Value.ref b] below meth c H locs cells slots Q (F0 m 1215 ls []) := by
  obtain ⟨hx, hb, hml, hown, hts, hK, hN, hE, hZ, hC, hl9, hN0, ho, hX, hbl, hL⟩ := C0
  obtain ⟨R, RS, N9, S, F, sv, n, len, kp, th, oo, m9, hDW, hMM, hLo, hg, hbu, hn6, hl6, hsv, hks, hm9⟩ := hI
  have hF : CallFix p m c cL_law 9 s #[Value.ref b] wsL_law RL := ⟨hx, hb, hml, hown, hts⟩
  have hα : inj 115 (al N o) := al_inj ho
  have hμ : inj 10 (mu N) := mu_inj N
  refine lv_aload_n hx hb dL_law_1215 rfl (lv_at hl 1 rfl) ?_
  refine lv_aload_n hx hb dL_law_1216 rfl (lv_at hl 0 rfl) ?_
  refine lv_iload hx hb dL_law_1217 (lv_at hl 4 rfl) ?_
  refine lv_iconst (v := 1) hx hb dL_law_1219 (by decide) ?_
  refine lv_iadd hx hb dL_law_1220 ?_
  rw [nI_1 i]
  refine va_sld hx hb hX hbl (Nat.not_le.mpr hbl) hS (vp_in_nI (n := (i + 1)) (N := L) (by omega) (by omega)) dL_law_1221 ?_
  rw [nI_clamp (n := (i + 1)) (by omega)]
  refine lv_aload_n hx hb dL_law_1222 rfl (lv_at hl 3 rfl) ?_
  refine dpl_Si hF hK hN hE hZ hC (c_L_setting l hl9 D G (al N o) R RS kp sv n F len oo (xs (i + 1)) _ hα hDW hLo hg hn6 hl6) (vx_cwSW 3 hts gL_law_L_setting rfl rfl rfl (by decide +kernel) ⟨Nat.le_of_ble_eq_true rfl, Nat.le_of_ble_eq_true rfl⟩) hS (fun q hq => al_ge hN0 ho hq) [] rfl rfl hl.1 (Nat.le_of_ble_eq_true rfl) dL_law_1223 ⟨by show cells + 1 ≤ 643901; omega, by show slots + 6 ≤ 7164402; omega⟩ (fun r1 H1 locs hp hz1 hk1 hS => ?_)
  have hMM := hMM.cl ho (fun q hq => hq) hk1
  obtain ⟨rfl, hp1⟩ := hp
  rcases hp1 with ⟨h0, hDW, o2, ho2, hLo⟩ | ⟨h0, hDW, hLo⟩
  · refine lv_istore (lv' := [(5, .int (cSet1 (xs (i + 1)))), (0, .ref b), (1, .ref N), (2, .ref (N + 104)), (3, .ref o), (4, .int (nI i))]) hx hb dL_law_1226 hl (by decide) rfl (fun ls hl => ?_)
    refine lv_aload_n hx hb dL_law_1228 rfl (lv_at hl 3 rfl) ?_
    refine lv_aload_n hx hb dL_law_1229 rfl (lv_at hl 1 rfl) ?_
    refine lv_iload hx hb dL_law_1230 (lv_at hl 5 rfl) ?_
    refine lv_iconst (v := 1) hx hb dL_law_1232 (by decide) ?_
    refine lv_iadd hx hb dL_law_1233 ?_
    rw [nI_1 i]
    refine va_sld hx hb hX hbl (Nat.not_le.mpr hbl) hS (vp_in_nI (n := (i + 1)) (N := L) (by omega) (by omega)) dL_law_1234 ?_
    rw [nI_clamp (n := (i + 1)) (by omega)]
    obtain ⟨E, P, L1, L2, L3, la, sp, od, hs, hM⟩ := hMM
    refine dp_Vi hF hK hN (c_X6_setting l D G (mu N) R S N9 E P F L1 L2 L3 (nI n) kp th la (nI len) sp od hs n (xs (i + 1)) _ hμ hM hg rfl hn6) (cwV 1 hts gL_law_X6_setting rfl rfl rfl (by decide +kernel) ⟨Nat.le_of_ble_eq_true rfl, Nat.le_of_ble_eq_true rfl⟩) (dp_recv hK hM.1 rfl) hS (fun q hq => mu_ge hN0 hq) [] rfl rfl hl.1 (Nat.le_of_ble_eq_true rfl) dL_law_1235 ⟨by show cells + 1 ≤ 643901; omega, by show slots + 6 ≤ 7164402; omega⟩ (fun r9 H1 locs hp hzH1 hkH1 hS => ?_)
    have hDW := hDW.md ho hkH1
    have hLo := hLo.kept (hkH1 _ hLo.lt (A6_al (k := 114) ho (by omega) (by omega)))
    obtain ⟨-, rfl, hMM⟩ := hp.resolve_right (fun q => q.1 h0)
    refine lv_istore (lv' := [(6, .int (R (ix (xs (i + 1))))), (5, .int (cSet1 (xs (i + 1)))), (0, .ref b), (1, .ref N), (2, .ref (N + 104)), (3, .ref o), (4, .int (nI i))]) hx hb dL_law_1238 hl (by decide) rfl (fun ls hl => ?_)
    refine lv_aload_n hx hb dL_law_1240 rfl (lv_at hl 4 rfl) ?_
    obtain ⟨E, P, L1, L2, L3, la, sp, od, hs, hM⟩ := hMM
    refine dp_Vi hF hK hN (c_X6_thrown l D G (mu N) R S N9 E P F L1 L2 L3 (nI n) kp 0 la (nI len) sp od hs _ hμ hM) (cwV 0 hts gL_law_X6_thrown rfl rfl rfl (by decide +kernel) ⟨Nat.le_of_ble_eq_true rfl, Nat.le_of_ble_eq_true rfl⟩) (dp_recv hK hM.1 rfl) hS nA_i [] rfl rfl hl.1 (Nat.le_of_ble_eq_true rfl) dL_law_1241 ⟨by show cells + 1 ≤ 643901; omega, by show slots + 6 ≤ 7164402; omega⟩ (fun rH2 H2 locs hp hzH2 hkH2 hS => ?_)
    obtain ⟨rfl, rfl⟩ := hp
    have hMM := MM.of hM
    refine lv_iload hx hb dL_law_1244 (lv_at hl 1 rfl) ?_
    refine lv_icmp_eq (tgt := 1251) hx hb dL_law_1246 (by decide) (fun c1 => ?_) (fun c1 => absurd h0.symm c1)
    refine lv_iload hx hb dL_law_1251 (lv_at hl 1 rfl) ?_
    refine lv_if_ne (tgt := 1268) hx hb dL_law_1253 (by decide) (fun c2 => absurd c2 (fun q => q h0)) (fun c2 => ?_)
    refine lv_aload_n hx hb dL_law_1256 rfl (lv_at hl 5 rfl) ?_
    refine lv_iconst (v := 0) hx hb dL_law_1257 (by decide) ?_
    refine dp_lald hx hb hK hLo 4 rfl 0 rfl (by decide) (by decide) dL_law_1258 ?_
    rw [ho2]
    refine lv_iload hx hb dL_law_1259 (lv_at hl 0 rfl) ?_
    refine lv_i2l hx hb dL_law_1261 rfl ?_
    refine W.lcmp hx hb dL_law_1262 ?_
    refine lv_if_eq (tgt := 1268) hx hb dL_law_1263 (by decide) (fun c3 => ?_) (fun c3 => absurd (lg_self _) c3)
    refine lv_goto (tgt := 1574) hx hb dL_law_1268 (by decide) ?_
    refine W.widen (k := cells + 4) (n := slots + 24) (by omega) (by omega) ?_
    exact kk _ _ _ hS ⟨R, RS, N9, S, F, sv, n, len, kp, _, _, m9, hDW, hMM, hLo, hg, hbu, hn6, hl6, hsv, hks, (by omega)⟩ (lv_sub hl [2, 3, 4, 5, 6] rfl)
  · refine lv_istore (lv' := [(5, .int (cSet1 (xs (i + 1)))), (0, .ref b), (1, .ref N), (2, .ref (N + 104)), (3, .ref o), (4, .int (nI i))]) hx hb dL_law_1226 hl (by decide) rfl (fun ls hl => ?_)
    refine lv_aload_n hx hb dL_law_1228 rfl (lv_at hl 3 rfl) ?_
    refine lv_aload_n hx hb dL_law_1229 rfl (lv_at hl 1 rfl) ?_
    refine lv_iload hx hb dL_law_1230 (lv_at hl 5 rfl) ?_
    refine lv_iconst (v := 1) hx hb dL_law_1232 (by decide) ?_
    refine lv_iadd hx hb dL_law_1233 ?_
    rw [nI_1 i]
    refine va_sld hx hb hX hbl (Nat.not_le.mpr hbl) hS (vp_in_nI (n := (i + 1)) (N := L) (by omega) (by omega)) dL_law_1234 ?_
    rw [nI_clamp (n := (i + 1)) (by omega)]
    obtain ⟨E, P, L1, L2, L3, la, sp, od, hs, hM⟩ := hMM
    refine dp_Vi hF hK hN (c_X6_setting l D G (mu N) R S N9 E P F L1 L2 L3 (nI n) kp th la (nI len) sp od hs n (xs (i + 1)) _ hμ hM hg rfl hn6) (cwV 1 hts gL_law_X6_setting rfl rfl rfl (by decide +kernel) ⟨Nat.le_of_ble_eq_true rfl, Nat.le_of_ble_eq_true rfl⟩) (dp_recv hK hM.1 rfl) hS (fun q hq => mu_ge hN0 hq) [] rfl rfl hl.1 (Nat.le_of_ble_eq_true rfl) dL_law_1235 ⟨by show cells + 1 ≤ 643901; omega, by show slots + 6 ≤ 7164402; omega⟩ (fun r9 H3 locs hp hzH3 hkH3 hS => ?_)
    have hDW := hDW.md ho hkH3
    have hLo := hLo.kept (hkH3 _ hLo.lt (A6_al (k := 114) ho (by omega) (by omega)))
    obtain ⟨-, hMM⟩ := hp.resolve_left (fun q => h0 q.1)
    refine lv_istore (lv' := [(6, .int r9), (5, .int (cSet1 (xs (i + 1)))), (0, .ref b), (1, .ref N), (2, .ref (N + 104)), (3, .ref o), (4, .int (nI i))]) hx hb dL_law_1238 hl (by decide) rfl (fun ls hl => ?_)
    refine lv_aload_n hx hb dL_law_1240 rfl (lv_at hl 4 rfl) ?_
    obtain ⟨E, P, L1, L2, L3, la, sp, od, hs, hM⟩ := hMM
    refine dp_Vi hF hK hN (c_X6_thrown l D G (mu N) R S N9 E P F L1 L2 L3 (nI n) kp (cSet1 (xs (i + 1))) la (nI len) sp od hs _ hμ hM) (cwV 0 hts gL_law_X6_thrown rfl rfl rfl (by decide +kernel) ⟨Nat.le_of_ble_eq_true rfl, Nat.le_of_ble_eq_true rfl⟩) (dp_recv hK hM.1 rfl) hS nA_i [] rfl rfl hl.1 (Nat.le_of_ble_eq_true rfl) dL_law_1241 ⟨by show cells + 1 ≤ 643901; omega, by show slots + 6 ≤ 7164402; omega⟩ (fun rH4 H4 locs hp hzH4 hkH4 hS => ?_)
    obtain ⟨rfl, rfl⟩ := hp
    have hMM := MM.of hM
    refine lv_iload hx hb dL_law_1244 (lv_at hl 1 rfl) ?_
    refine lv_icmp_eq (tgt := 1251) hx hb dL_law_1246 (by decide) (fun c4 => ?_) (fun c4 => absurd rfl c4)
    refine lv_iload hx hb dL_law_1251 (lv_at hl 1 rfl) ?_
    refine lv_if_ne (tgt := 1268) hx hb dL_law_1253 (by decide) (fun c5 => ?_) (fun c5 => absurd c5 h0)
    refine lv_goto (tgt := 1574) hx hb dL_law_1268 (by decide) ?_
    refine W.widen (k := cells + 4) (n := slots + 24) (by omega) (by omega) ?_
    exact kk _ _ _ hS ⟨R, RS, N9, S, F, sv, n, len, kp, _, _, m9, hDW, hMM, hLo, hg, hbu, hn6, hl6, hsv, hks, (by omega)⟩ (lv_sub hl [2, 3, 4, 5, 6] rfl)

set_option maxHeartbeats 1600000 in
set_option maxRecDepth 100000 in
theorem K_ifSpeed {p : Program} {l : Launch} {e : Env} {s : State} {m : MethodId} {below : List Frame} {meth : Method} {c : Code} {D : va_G} {G : Nat → ClassId} {b N o L c9 : Nat} {xs : Nat → Int32} {Q : State → Prop} {H : Heap} {locs : List Loc} {cells slots : Nat} {ls : Array Slot} (C0 : LC p l s m b c D G N o L xs) (hcs : cells + 4 ≤ 643901 ∧ slots + 24 ≤ 7164402) (hS : va_S (fun q => s.heap.size ≤ q) s.heap H locs) (hI : LInv D G N o c9 H) (hc9 : c9 < 512) (i : Nat) (hi : i + 4 ≤ L) (hl : lv_has ls 9 [(0, .ref b), (1, .ref N), (2, .ref (N + 104)), (3, .ref o), (4, .int (nI i))]) (kk : ∀ (H1 : Heap) (locs1 : List Loc) (ls1 : Array Slot), va_S (fun q => s.heap.size ≤ q) s.heap H1 locs1 → LInv D G N o (c9 + 1) H1 → lv_has ls1 9 [(0, .ref b), (1, .ref N), (2, .ref (N + 104)), (3, .ref o), (4, .int (nI i))] → W p l e room_1 s m #[Value.ref b] below meth c H1 locs1 (cells + 4) (slots + 24) Q (F0 m 1574 ls1 [])) : W p l e room_1 s m #[Value.ref b] below meth c H locs cells slots Q (F0 m 1271 ls []) := by
  obtain ⟨hx, hb, hml, hown, hts, hK, hN, hE, hZ, hC, hl9, hN0, ho, hX, hbl, hL⟩ := C0
  obtain ⟨R, RS, N9, S, F, sv, n, len, kp, th, oo, m9, hDW, hMM, hLo, hg, hbu, hn6, hl6, hsv, hks, hm9⟩ := hI
  have hF : CallFix p m c cL_law 9 s #[Value.ref b] wsL_law RL := ⟨hx, hb, hml, hown, hts⟩
  have hα : inj 115 (al N o) := al_inj ho
  have hμ : inj 10 (mu N) := mu_inj N
  refine lv_aload_n hx hb dL_law_1271 rfl (lv_at hl 1 rfl) ?_
  refine lv_aload_n hx hb dL_law_1272 rfl (lv_at hl 0 rfl) ?_
  refine lv_iload hx hb dL_law_1273 (lv_at hl 4 rfl) ?_
  refine lv_iconst (v := 1) hx hb dL_law_1275 (by decide) ?_
  refine lv_iadd hx hb dL_law_1276 ?_
  rw [nI_1 i]
  refine va_sld hx hb hX hbl (Nat.not_le.mpr hbl) hS (vp_in_nI (n := (i + 1)) (N := L) (by omega) (by omega)) dL_law_1277 ?_
  rw [nI_clamp (n := (i + 1)) (by omega)]
  refine lv_aload_n hx hb dL_law_1278 rfl (lv_at hl 0 rfl) ?_
  refine lv_iload hx hb dL_law_1279 (lv_at hl 4 rfl) ?_
  refine lv_iconst (v := 2) hx hb dL_law_1281 (by decide) ?_
  refine lv_iadd hx hb dL_law_1282 ?_
  rw [nI_2 i]
  refine va_sld hx hb hX hbl (Nat.not_le.mpr hbl) hS (vp_in_nI (n := (i + 2)) (N := L) (by omega) (by omega)) dL_law_1283 ?_
  rw [nI_clamp (n := (i + 2)) (by omega)]
  refine lv_aload_n hx hb dL_law_1284 rfl (lv_at hl 0 rfl) ?_
  refine lv_iload hx hb dL_law_1285 (lv_at hl 4 rfl) ?_
  refine lv_iconst (v := 3) hx hb dL_law_1287 (by decide) ?_
  refine lv_iadd hx hb dL_law_1288 ?_
  rw [nI_3 i]
  refine va_sld hx hb hX hbl (Nat.not_le.mpr hbl) hS (vp_in_nI (n := (i + 3)) (N := L) (by omega) (by omega)) dL_law_1289 ?_
  rw [nI_clamp (n := (i + 3)) (by omega)]
  refine lv_aload_n hx hb dL_law_1290 rfl (lv_at hl 3 rfl) ?_
  refine dpl_Si hF hK hN hE hZ hC (c_L_ifSpeed l hl9 D G (al N o) R RS kp sv n F len oo (xs (i + 1)) (xs (i + 2)) (xs (i + 3)) _ hα hDW hLo hg hn6 hl6) (vx_cwSW 5 hts gL_law_L_ifSpeed rfl rfl rfl (by decide +kernel) ⟨Nat.le_of_ble_eq_true rfl, Nat.le_of_ble_eq_true rfl⟩) hS (fun q hq => al_ge hN0 ho hq) [] rfl rfl hl.1 (Nat.le_of_ble_eq_true rfl) dL_law_1291 ⟨by show cells + 3 ≤ 643901; omega, by show slots + 18 ≤ 7164402; omega⟩ (fun r1 H1 locs hp hz1 hk1 hS => ?_)
  have hMM := hMM.cl ho (fun q hq => hq) hk1
  obtain ⟨rfl, hp1⟩ := hp
  rcases hp1 with ⟨h0, hDW, o2, ho2, hLo⟩ | ⟨h0, hDW, hLo⟩
  · refine lv_istore (lv' := [(5, .int (cIf (xs (i + 1)) (xs (i + 2)) (xs (i + 3)))), (0, .ref b), (1, .ref N), (2, .ref (N + 104)), (3, .ref o), (4, .int (nI i))]) hx hb dL_law_1294 hl (by decide) rfl (fun ls hl => ?_)
    refine lv_aload_n hx hb dL_law_1296 rfl (lv_at hl 3 rfl) ?_
    refine lv_aload_n hx hb dL_law_1297 rfl (lv_at hl 1 rfl) ?_
    refine lv_iload hx hb dL_law_1298 (lv_at hl 5 rfl) ?_
    refine lv_iconst (v := 1) hx hb dL_law_1300 (by decide) ?_
    refine lv_iadd hx hb dL_law_1301 ?_
    rw [nI_1 i]
    refine va_sld hx hb hX hbl (Nat.not_le.mpr hbl) hS (vp_in_nI (n := (i + 1)) (N := L) (by omega) (by omega)) dL_law_1302 ?_
    rw [nI_clamp (n := (i + 1)) (by omega)]
    refine lv_aload_n hx hb dL_law_1303 rfl (lv_at hl 1 rfl) ?_
    refine lv_iload hx hb dL_law_1304 (lv_at hl 5 rfl) ?_
    refine lv_iconst (v := 2) hx hb dL_law_1306 (by decide) ?_
    refine lv_iadd hx hb dL_law_1307 ?_
    rw [nI_2 i]
    refine va_sld hx hb hX hbl (Nat.not_le.mpr hbl) hS (vp_in_nI (n := (i + 2)) (N := L) (by omega) (by omega)) dL_law_1308 ?_
    rw [nI_clamp (n := (i + 2)) (by omega)]
    refine lv_aload_n hx hb dL_law_1309 rfl (lv_at hl 1 rfl) ?_
    refine lv_iload hx hb dL_law_1310 (lv_at hl 5 rfl) ?_
    refine lv_iconst (v := 3) hx hb dL_law_1312 (by decide) ?_
    refine lv_iadd hx hb dL_law_1313 ?_
    rw [nI_3 i]
    refine va_sld hx hb hX hbl (Nat.not_le.mpr hbl) hS (vp_in_nI (n := (i + 3)) (N := L) (by omega) (by omega)) dL_law_1314 ?_
    rw [nI_clamp (n := (i + 3)) (by omega)]
    obtain ⟨E, P, L1, L2, L3, la, sp, od, hs, hM⟩ := hMM
    refine dp_Vi hF hK hN (c_X6_ifSpeed l D G (mu N) R S N9 E P F L1 L2 L3 (nI n) kp th la (nI len) sp od hs n (xs (i + 1)) (xs (i + 2)) (xs (i + 3)) _ hμ hM hg rfl hn6) (cwV 3 hts gL_law_X6_ifSpeed rfl rfl rfl (by decide +kernel) ⟨Nat.le_of_ble_eq_true rfl, Nat.le_of_ble_eq_true rfl⟩) (dp_recv hK hM.1 rfl) hS (fun q hq => mu_ge hN0 hq) [] rfl rfl hl.1 (Nat.le_of_ble_eq_true rfl) dL_law_1315 ⟨by show cells + 3 ≤ 643901; omega, by show slots + 18 ≤ 7164402; omega⟩ (fun r9 H1 locs hp hzH1 hkH1 hS => ?_)
    have hDW := hDW.md ho hkH1
    have hLo := hLo.kept (hkH1 _ hLo.lt (A6_al (k := 114) ho (by omega) (by omega)))
    obtain ⟨-, rfl, hMM⟩ := hp.resolve_right (fun q => q.1 h0)
    refine lv_istore (lv' := [(6, .int (tif R (ix (xs (i + 1))) (xs (i + 2)) (xs (i + 3)))), (5, .int (cIf (xs (i + 1)) (xs (i + 2)) (xs (i + 3)))), (0, .ref b), (1, .ref N), (2, .ref (N + 104)), (3, .ref o), (4, .int (nI i))]) hx hb dL_law_1318 hl (by decide) rfl (fun ls hl => ?_)
    refine lv_aload_n hx hb dL_law_1320 rfl (lv_at hl 4 rfl) ?_
    obtain ⟨E, P, L1, L2, L3, la, sp, od, hs, hM⟩ := hMM
    refine dp_Vi hF hK hN (c_X6_thrown l D G (mu N) R S N9 E P F L1 L2 L3 (nI n) kp 0 la (nI len) sp od hs _ hμ hM) (cwV 0 hts gL_law_X6_thrown rfl rfl rfl (by decide +kernel) ⟨Nat.le_of_ble_eq_true rfl, Nat.le_of_ble_eq_true rfl⟩) (dp_recv hK hM.1 rfl) hS nA_i [] rfl rfl hl.1 (Nat.le_of_ble_eq_true rfl) dL_law_1321 ⟨by show cells + 3 ≤ 643901; omega, by show slots + 18 ≤ 7164402; omega⟩ (fun rH2 H2 locs hp hzH2 hkH2 hS => ?_)
    obtain ⟨rfl, rfl⟩ := hp
    have hMM := MM.of hM
    refine lv_iload hx hb dL_law_1324 (lv_at hl 1 rfl) ?_
    refine lv_icmp_eq (tgt := 1331) hx hb dL_law_1326 (by decide) (fun c1 => ?_) (fun c1 => absurd h0.symm c1)
    refine lv_iload hx hb dL_law_1331 (lv_at hl 1 rfl) ?_
    refine lv_if_ne (tgt := 1348) hx hb dL_law_1333 (by decide) (fun c2 => absurd c2 (fun q => q h0)) (fun c2 => ?_)
    refine lv_aload_n hx hb dL_law_1336 rfl (lv_at hl 5 rfl) ?_
    refine lv_iconst (v := 0) hx hb dL_law_1337 (by decide) ?_
    refine dp_lald hx hb hK hLo 4 rfl 0 rfl (by decide) (by decide) dL_law_1338 ?_
    rw [ho2]
    refine lv_iload hx hb dL_law_1339 (lv_at hl 0 rfl) ?_
    refine lv_i2l hx hb dL_law_1341 rfl ?_
    refine W.lcmp hx hb dL_law_1342 ?_
    refine lv_if_eq (tgt := 1348) hx hb dL_law_1343 (by decide) (fun c3 => ?_) (fun c3 => absurd (lg_self _) c3)
    refine lv_goto (tgt := 1574) hx hb dL_law_1348 (by decide) ?_
    refine W.widen (k := cells + 4) (n := slots + 24) (by omega) (by omega) ?_
    exact kk _ _ _ hS ⟨R, RS, N9, S, F, sv, n, len, kp, _, _, m9, hDW, hMM, hLo, hg, hbu, hn6, hl6, hsv, hks, (by omega)⟩ (lv_sub hl [2, 3, 4, 5, 6] rfl)
  · refine lv_istore (lv' := [(5, .int (cIf (xs (i + 1)) (xs (i + 2)) (xs (i + 3)))), (0, .ref b), (1, .ref N), (2, .ref (N + 104)), (3, .ref o), (4, .int (nI i))]) hx hb dL_law_1294 hl (by decide) rfl (fun ls hl => ?_)
    refine lv_aload_n hx hb dL_law_1296 rfl (lv_at hl 3 rfl) ?_
    refine lv_aload_n hx hb dL_law_1297 rfl (lv_at hl 1 rfl) ?_
    refine lv_iload hx hb dL_law_1298 (lv_at hl 5 rfl) ?_
    refine lv_iconst (v := 1) hx hb dL_law_1300 (by decide) ?_
    refine lv_iadd hx hb dL_law_1301 ?_
    rw [nI_1 i]
    refine va_sld hx hb hX hbl (Nat.not_le.mpr hbl) hS (vp_in_nI (n := (i + 1)) (N := L) (by omega) (by omega)) dL_law_1302 ?_
    rw [nI_clamp (n := (i + 1)) (by omega)]
    refine lv_aload_n hx hb dL_law_1303 rfl (lv_at hl 1 rfl) ?_
    refine lv_iload hx hb dL_law_1304 (lv_at hl 5 rfl) ?_
    refine lv_iconst (v := 2) hx hb dL_law_1306 (by decide) ?_
    refine lv_iadd hx hb dL_law_1307 ?_
    rw [nI_2 i]
    refine va_sld hx hb hX hbl (Nat.not_le.mpr hbl) hS (vp_in_nI (n := (i + 2)) (N := L) (by omega) (by omega)) dL_law_1308 ?_
    rw [nI_clamp (n := (i + 2)) (by omega)]
    refine lv_aload_n hx hb dL_law_1309 rfl (lv_at hl 1 rfl) ?_
    refine lv_iload hx hb dL_law_1310 (lv_at hl 5 rfl) ?_
    refine lv_iconst (v := 3) hx hb dL_law_1312 (by decide) ?_
    refine lv_iadd hx hb dL_law_1313 ?_
    rw [nI_3 i]
    refine va_sld hx hb hX hbl (Nat.not_le.mpr hbl) hS (vp_in_nI (n := (i + 3)) (N := L) (by omega) (by omega)) dL_law_1314 ?_
    rw [nI_clamp (n := (i + 3)) (by omega)]
    obtain ⟨E, P, L1, L2, L3, la, sp, od, hs, hM⟩ := hMM
    refine dp_Vi hF hK hN (c_X6_ifSpeed l D G (mu N) R S N9 E P F L1 L2 L3 (nI n) kp th la (nI len) sp od hs n (xs (i + 1)) (xs (i + 2)) (xs (i + 3)) _ hμ hM hg rfl hn6) (cwV 3 hts gL_law_X6_ifSpeed rfl rfl rfl (by decide +kernel) ⟨Nat.le_of_ble_eq_true rfl, Nat.le_of_ble_eq_true rfl⟩) (dp_recv hK hM.1 rfl) hS (fun q hq => mu_ge hN0 hq) [] rfl rfl hl.1 (Nat.le_of_ble_eq_true rfl) dL_law_1315 ⟨by show cells + 3 ≤ 643901; omega, by show slots + 18 ≤ 7164402; omega⟩ (fun r9 H3 locs hp hzH3 hkH3 hS => ?_)
    have hDW := hDW.md ho hkH3
    have hLo := hLo.kept (hkH3 _ hLo.lt (A6_al (k := 114) ho (by omega) (by omega)))
    obtain ⟨-, hMM⟩ := hp.resolve_left (fun q => h0 q.1)
    refine lv_istore (lv' := [(6, .int r9), (5, .int (cIf (xs (i + 1)) (xs (i + 2)) (xs (i + 3)))), (0, .ref b), (1, .ref N), (2, .ref (N + 104)), (3, .ref o), (4, .int (nI i))]) hx hb dL_law_1318 hl (by decide) rfl (fun ls hl => ?_)
    refine lv_aload_n hx hb dL_law_1320 rfl (lv_at hl 4 rfl) ?_
    obtain ⟨E, P, L1, L2, L3, la, sp, od, hs, hM⟩ := hMM
    refine dp_Vi hF hK hN (c_X6_thrown l D G (mu N) R S N9 E P F L1 L2 L3 (nI n) kp (cIf (xs (i + 1)) (xs (i + 2)) (xs (i + 3))) la (nI len) sp od hs _ hμ hM) (cwV 0 hts gL_law_X6_thrown rfl rfl rfl (by decide +kernel) ⟨Nat.le_of_ble_eq_true rfl, Nat.le_of_ble_eq_true rfl⟩) (dp_recv hK hM.1 rfl) hS nA_i [] rfl rfl hl.1 (Nat.le_of_ble_eq_true rfl) dL_law_1321 ⟨by show cells + 3 ≤ 643901; omega, by show slots + 18 ≤ 7164402; omega⟩ (fun rH4 H4 locs hp hzH4 hkH4 hS => ?_)
    obtain ⟨rfl, rfl⟩ := hp
    have hMM := MM.of hM
    refine lv_iload hx hb dL_law_1324 (lv_at hl 1 rfl) ?_
    refine lv_icmp_eq (tgt := 1331) hx hb dL_law_1326 (by decide) (fun c4 => ?_) (fun c4 => absurd rfl c4)
    refine lv_iload hx hb dL_law_1331 (lv_at hl 1 rfl) ?_
    refine lv_if_ne (tgt := 1348) hx hb dL_law_1333 (by decide) (fun c5 => ?_) (fun c5 => absurd c5 h0)
    refine lv_goto (tgt := 1574) hx hb dL_law_1348 (by decide) ?_
    refine W.widen (k := cells + 4) (n := slots + 24) (by omega) (by omega) ?_
    exact kk _ _ _ hS ⟨R, RS, N9, S, F, sv, n, len, kp, _, _, m9, hDW, hMM, hLo, hg, hbu, hn6, hl6, hsv, hks, (by omega)⟩ (lv_sub hl [2, 3, 4, 5, 6] rfl)

set_option maxHeartbeats 1600000 in
set_option maxRecDepth 100000 in
theorem K_closeIn {p : Program} {l : Launch} {e : Env} {s : State} {m : MethodId} {below : List Frame} {meth : Method} {c : Code} {D : va_G} {G : Nat → ClassId} {b N o L c9 : Nat} {xs : Nat → Int32} {Q : State → Prop} {H : Heap} {locs : List Loc} {cells slots : Nat} {ls : Array Slot} (C0 : LC p l s m b c D G N o L xs) (hcs : cells + 4 ≤ 643901 ∧ slots + 24 ≤ 7164402) (hS : va_S (fun q => s.heap.size ≤ q) s.heap H locs) (hI : LInv D G N o c9 H) (hc9 : c9 < 512) (i : Nat) (hi : i + 4 ≤ L) (hl : lv_has ls 9 [(0, .ref b), (1, .ref N), (2, .ref (N + 104)), (3, .ref o), (4, .int (nI i))]) (kk : ∀ (H1 : Heap) (locs1 : List Loc) (ls1 : Array Slot), va_S (fun q => s.heap.size ≤ q) s.heap H1 locs1 → LInv D G N o (c9 + 1) H1 → lv_has ls1 9 [(0, .ref b), (1, .ref N), (2, .ref (N + 104)), (3, .ref o), (4, .int (nI i))] → W p l e room_1 s m #[Value.ref b] below meth c H1 locs1 (cells + 4) (slots + 24) Q (F0 m 1574 ls1 [])) : W p l e room_1 s m #[Value.ref b] below meth c H locs cells slots Q (F0 m 1351 ls []) := by
  obtain ⟨hx, hb, hml, hown, hts, hK, hN, hE, hZ, hC, hl9, hN0, ho, hX, hbl, hL⟩ := C0
  obtain ⟨R, RS, N9, S, F, sv, n, len, kp, th, oo, m9, hDW, hMM, hLo, hg, hbu, hn6, hl6, hsv, hks, hm9⟩ := hI
  have hF : CallFix p m c cL_law 9 s #[Value.ref b] wsL_law RL := ⟨hx, hb, hml, hown, hts⟩
  have hα : inj 115 (al N o) := al_inj ho
  have hμ : inj 10 (mu N) := mu_inj N
  refine lv_aload_n hx hb dL_law_1351 rfl (lv_at hl 1 rfl) ?_
  refine lv_aload_n hx hb dL_law_1352 rfl (lv_at hl 0 rfl) ?_
  refine lv_iload hx hb dL_law_1353 (lv_at hl 4 rfl) ?_
  refine lv_iconst (v := 1) hx hb dL_law_1355 (by decide) ?_
  refine lv_iadd hx hb dL_law_1356 ?_
  rw [nI_1 i]
  refine va_sld hx hb hX hbl (Nat.not_le.mpr hbl) hS (vp_in_nI (n := (i + 1)) (N := L) (by omega) (by omega)) dL_law_1357 ?_
  rw [nI_clamp (n := (i + 1)) (by omega)]
  refine lv_aload_n hx hb dL_law_1358 rfl (lv_at hl 3 rfl) ?_
  refine dpl_Si hF hK hN hE hZ hC (c_L_closeIn l hl9 D G (al N o) R RS kp sv n F len oo (xs (i + 1)) _ hα hDW hLo hg hn6 hl6) (vx_cwSW 3 hts gL_law_L_closeIn rfl rfl rfl (by decide +kernel) ⟨Nat.le_of_ble_eq_true rfl, Nat.le_of_ble_eq_true rfl⟩) hS (fun q hq => al_ge hN0 ho hq) [] rfl rfl hl.1 (Nat.le_of_ble_eq_true rfl) dL_law_1359 ⟨by show cells + 1 ≤ 643901; omega, by show slots + 6 ≤ 7164402; omega⟩ (fun r1 H1 locs hp hz1 hk1 hS => ?_)
  have hMM := hMM.cl ho (fun q hq => hq) hk1
  obtain ⟨rfl, hp1⟩ := hp
  rcases hp1 with ⟨h0, hDW, o2, ho2, hLo⟩ | ⟨h0, hDW, hLo⟩
  · refine lv_istore (lv' := [(5, .int (cOne (xs (i + 1)))), (0, .ref b), (1, .ref N), (2, .ref (N + 104)), (3, .ref o), (4, .int (nI i))]) hx hb dL_law_1362 hl (by decide) rfl (fun ls hl => ?_)
    refine lv_aload_n hx hb dL_law_1364 rfl (lv_at hl 3 rfl) ?_
    refine lv_aload_n hx hb dL_law_1365 rfl (lv_at hl 1 rfl) ?_
    refine lv_iload hx hb dL_law_1366 (lv_at hl 5 rfl) ?_
    refine lv_iconst (v := 1) hx hb dL_law_1368 (by decide) ?_
    refine lv_iadd hx hb dL_law_1369 ?_
    rw [nI_1 i]
    refine va_sld hx hb hX hbl (Nat.not_le.mpr hbl) hS (vp_in_nI (n := (i + 1)) (N := L) (by omega) (by omega)) dL_law_1370 ?_
    rw [nI_clamp (n := (i + 1)) (by omega)]
    obtain ⟨E, P, L1, L2, L3, la, sp, od, hs, hM⟩ := hMM
    refine dp_Vi hF hK hN (c_X6_closeIn l D G (mu N) R S N9 E P F L1 L2 L3 (nI n) kp th la (nI len) sp od hs n (xs (i + 1)) _ hμ hM hg rfl hn6) (cwV 1 hts gL_law_X6_closeIn rfl rfl rfl (by decide +kernel) ⟨Nat.le_of_ble_eq_true rfl, Nat.le_of_ble_eq_true rfl⟩) (dp_recv hK hM.1 rfl) hS (fun q hq => mu_ge hN0 hq) [] rfl rfl hl.1 (Nat.le_of_ble_eq_true rfl) dL_law_1371 ⟨by show cells + 1 ≤ 643901; omega, by show slots + 6 ≤ 7164402; omega⟩ (fun r9 H1 locs hp hzH1 hkH1 hS => ?_)
    have hDW := hDW.md ho hkH1
    have hLo := hLo.kept (hkH1 _ hLo.lt (A6_al (k := 114) ho (by omega) (by omega)))
    obtain ⟨-, rfl, hMM⟩ := hp.resolve_right (fun q => q.1 h0)
    refine lv_istore (lv' := [(6, .int (cin R (ix (xs (i + 1))))), (5, .int (cOne (xs (i + 1)))), (0, .ref b), (1, .ref N), (2, .ref (N + 104)), (3, .ref o), (4, .int (nI i))]) hx hb dL_law_1374 hl (by decide) rfl (fun ls hl => ?_)
    refine lv_aload_n hx hb dL_law_1376 rfl (lv_at hl 4 rfl) ?_
    obtain ⟨E, P, L1, L2, L3, la, sp, od, hs, hM⟩ := hMM
    refine dp_Vi hF hK hN (c_X6_thrown l D G (mu N) R S N9 E P F L1 L2 L3 (nI n) kp 0 la (nI len) sp od hs _ hμ hM) (cwV 0 hts gL_law_X6_thrown rfl rfl rfl (by decide +kernel) ⟨Nat.le_of_ble_eq_true rfl, Nat.le_of_ble_eq_true rfl⟩) (dp_recv hK hM.1 rfl) hS nA_i [] rfl rfl hl.1 (Nat.le_of_ble_eq_true rfl) dL_law_1377 ⟨by show cells + 1 ≤ 643901; omega, by show slots + 6 ≤ 7164402; omega⟩ (fun rH2 H2 locs hp hzH2 hkH2 hS => ?_)
    obtain ⟨rfl, rfl⟩ := hp
    have hMM := MM.of hM
    refine lv_iload hx hb dL_law_1380 (lv_at hl 1 rfl) ?_
    refine lv_icmp_eq (tgt := 1387) hx hb dL_law_1382 (by decide) (fun c1 => ?_) (fun c1 => absurd h0.symm c1)
    refine lv_iload hx hb dL_law_1387 (lv_at hl 1 rfl) ?_
    refine lv_if_ne (tgt := 1404) hx hb dL_law_1389 (by decide) (fun c2 => absurd c2 (fun q => q h0)) (fun c2 => ?_)
    refine lv_aload_n hx hb dL_law_1392 rfl (lv_at hl 5 rfl) ?_
    refine lv_iconst (v := 0) hx hb dL_law_1393 (by decide) ?_
    refine dp_lald hx hb hK hLo 4 rfl 0 rfl (by decide) (by decide) dL_law_1394 ?_
    rw [ho2]
    refine lv_iload hx hb dL_law_1395 (lv_at hl 0 rfl) ?_
    refine lv_i2l hx hb dL_law_1397 rfl ?_
    refine W.lcmp hx hb dL_law_1398 ?_
    refine lv_if_eq (tgt := 1404) hx hb dL_law_1399 (by decide) (fun c3 => ?_) (fun c3 => absurd (lg_self _) c3)
    refine lv_goto (tgt := 1574) hx hb dL_law_1404 (by decide) ?_
    refine W.widen (k := cells + 4) (n := slots + 24) (by omega) (by omega) ?_
    exact kk _ _ _ hS ⟨R, RS, N9, S, F, sv, n, len, kp, _, _, m9, hDW, hMM, hLo, hg, hbu, hn6, hl6, hsv, hks, (by omega)⟩ (lv_sub hl [2, 3, 4, 5, 6] rfl)
  · refine lv_istore (lv' := [(5, .int (cOne (xs (i + 1)))), (0, .ref b), (1, .ref N), (2, .ref (N + 104)), (3, .ref o), (4, .int (nI i))]) hx hb dL_law_1362 hl (by decide) rfl (fun ls hl => ?_)
    refine lv_aload_n hx hb dL_law_1364 rfl (lv_at hl 3 rfl) ?_
    refine lv_aload_n hx hb dL_law_1365 rfl (lv_at hl 1 rfl) ?_
    refine lv_iload hx hb dL_law_1366 (lv_at hl 5 rfl) ?_
    refine lv_iconst (v := 1) hx hb dL_law_1368 (by decide) ?_
    refine lv_iadd hx hb dL_law_1369 ?_
    rw [nI_1 i]
    refine va_sld hx hb hX hbl (Nat.not_le.mpr hbl) hS (vp_in_nI (n := (i + 1)) (N := L) (by omega) (by omega)) dL_law_1370 ?_
    rw [nI_clamp (n := (i + 1)) (by omega)]
    obtain ⟨E, P, L1, L2, L3, la, sp, od, hs, hM⟩ := hMM
    refine dp_Vi hF hK hN (c_X6_closeIn l D G (mu N) R S N9 E P F L1 L2 L3 (nI n) kp th la (nI len) sp od hs n (xs (i + 1)) _ hμ hM hg rfl hn6) (cwV 1 hts gL_law_X6_closeIn rfl rfl rfl (by decide +kernel) ⟨Nat.le_of_ble_eq_true rfl, Nat.le_of_ble_eq_true rfl⟩) (dp_recv hK hM.1 rfl) hS (fun q hq => mu_ge hN0 hq) [] rfl rfl hl.1 (Nat.le_of_ble_eq_true rfl) dL_law_1371 ⟨by show cells + 1 ≤ 643901; omega, by show slots + 6 ≤ 7164402; omega⟩ (fun r9 H3 locs hp hzH3 hkH3 hS => ?_)
    have hDW := hDW.md ho hkH3
    have hLo := hLo.kept (hkH3 _ hLo.lt (A6_al (k := 114) ho (by omega) (by omega)))
    obtain ⟨-, hMM⟩ := hp.resolve_left (fun q => h0 q.1)
    refine lv_istore (lv' := [(6, .int r9), (5, .int (cOne (xs (i + 1)))), (0, .ref b), (1, .ref N), (2, .ref (N + 104)), (3, .ref o), (4, .int (nI i))]) hx hb dL_law_1374 hl (by decide) rfl (fun ls hl => ?_)
    refine lv_aload_n hx hb dL_law_1376 rfl (lv_at hl 4 rfl) ?_
    obtain ⟨E, P, L1, L2, L3, la, sp, od, hs, hM⟩ := hMM
    refine dp_Vi hF hK hN (c_X6_thrown l D G (mu N) R S N9 E P F L1 L2 L3 (nI n) kp (cOne (xs (i + 1))) la (nI len) sp od hs _ hμ hM) (cwV 0 hts gL_law_X6_thrown rfl rfl rfl (by decide +kernel) ⟨Nat.le_of_ble_eq_true rfl, Nat.le_of_ble_eq_true rfl⟩) (dp_recv hK hM.1 rfl) hS nA_i [] rfl rfl hl.1 (Nat.le_of_ble_eq_true rfl) dL_law_1377 ⟨by show cells + 1 ≤ 643901; omega, by show slots + 6 ≤ 7164402; omega⟩ (fun rH4 H4 locs hp hzH4 hkH4 hS => ?_)
    obtain ⟨rfl, rfl⟩ := hp
    have hMM := MM.of hM
    refine lv_iload hx hb dL_law_1380 (lv_at hl 1 rfl) ?_
    refine lv_icmp_eq (tgt := 1387) hx hb dL_law_1382 (by decide) (fun c4 => ?_) (fun c4 => absurd rfl c4)
    refine lv_iload hx hb dL_law_1387 (lv_at hl 1 rfl) ?_
    refine lv_if_ne (tgt := 1404) hx hb dL_law_1389 (by decide) (fun c5 => ?_) (fun c5 => absurd c5 h0)
    refine lv_goto (tgt := 1574) hx hb dL_law_1404 (by decide) ?_
    refine W.widen (k := cells + 4) (n := slots + 24) (by omega) (by omega) ?_
    exact kk _ _ _ hS ⟨R, RS, N9, S, F, sv, n, len, kp, _, _, m9, hDW, hMM, hLo, hg, hbu, hn6, hl6, hsv, hks, (by omega)⟩ (lv_sub hl [2, 3, 4, 5, 6] rfl)

set_option maxHeartbeats 1600000 in
set_option maxRecDepth 100000 in
theorem K_fairSpeed {p : Program} {l : Launch} {e : Env} {s : State} {m : MethodId} {below : List Frame} {meth : Method} {c : Code} {D : va_G} {G : Nat → ClassId} {b N o L c9 : Nat} {xs : Nat → Int32} {Q : State → Prop} {H : Heap} {locs : List Loc} {cells slots : Nat} {ls : Array Slot} (C0 : LC p l s m b c D G N o L xs) (hcs : cells + 4 ≤ 643901 ∧ slots + 24 ≤ 7164402) (hS : va_S (fun q => s.heap.size ≤ q) s.heap H locs) (hI : LInv D G N o c9 H) (hc9 : c9 < 512) (i : Nat) (hi : i + 4 ≤ L) (hl : lv_has ls 9 [(0, .ref b), (1, .ref N), (2, .ref (N + 104)), (3, .ref o), (4, .int (nI i))]) (kk : ∀ (H1 : Heap) (locs1 : List Loc) (ls1 : Array Slot), va_S (fun q => s.heap.size ≤ q) s.heap H1 locs1 → LInv D G N o (c9 + 1) H1 → lv_has ls1 9 [(0, .ref b), (1, .ref N), (2, .ref (N + 104)), (3, .ref o), (4, .int (nI i))] → W p l e room_1 s m #[Value.ref b] below meth c H1 locs1 (cells + 4) (slots + 24) Q (F0 m 1574 ls1 [])) : W p l e room_1 s m #[Value.ref b] below meth c H locs cells slots Q (F0 m 1407 ls []) := by
  obtain ⟨hx, hb, hml, hown, hts, hK, hN, hE, hZ, hC, hl9, hN0, ho, hX, hbl, hL⟩ := C0
  obtain ⟨R, RS, N9, S, F, sv, n, len, kp, th, oo, m9, hDW, hMM, hLo, hg, hbu, hn6, hl6, hsv, hks, hm9⟩ := hI
  have hF : CallFix p m c cL_law 9 s #[Value.ref b] wsL_law RL := ⟨hx, hb, hml, hown, hts⟩
  have hα : inj 115 (al N o) := al_inj ho
  have hμ : inj 10 (mu N) := mu_inj N
  refine lv_aload_n hx hb dL_law_1407 rfl (lv_at hl 1 rfl) ?_
  refine lv_aload_n hx hb dL_law_1408 rfl (lv_at hl 0 rfl) ?_
  refine lv_iload hx hb dL_law_1409 (lv_at hl 4 rfl) ?_
  refine lv_iconst (v := 1) hx hb dL_law_1411 (by decide) ?_
  refine lv_iadd hx hb dL_law_1412 ?_
  rw [nI_1 i]
  refine va_sld hx hb hX hbl (Nat.not_le.mpr hbl) hS (vp_in_nI (n := (i + 1)) (N := L) (by omega) (by omega)) dL_law_1413 ?_
  rw [nI_clamp (n := (i + 1)) (by omega)]
  refine lv_aload_n hx hb dL_law_1414 rfl (lv_at hl 3 rfl) ?_
  refine dpl_Si hF hK hN hE hZ hC (c_L_fairSpeed l hl9 D G (al N o) R RS kp sv n F len oo (xs (i + 1)) _ hα hDW hLo hg hn6 hl6) (vx_cwSW 3 hts gL_law_L_fairSpeed rfl rfl rfl (by decide +kernel) ⟨Nat.le_of_ble_eq_true rfl, Nat.le_of_ble_eq_true rfl⟩) hS (fun q hq => al_ge hN0 ho hq) [] rfl rfl hl.1 (Nat.le_of_ble_eq_true rfl) dL_law_1415 ⟨by show cells + 1 ≤ 643901; omega, by show slots + 6 ≤ 7164402; omega⟩ (fun r1 H1 locs hp hz1 hk1 hS => ?_)
  have hMM := hMM.cl ho (fun q hq => hq) hk1
  obtain ⟨rfl, hp1⟩ := hp
  rcases hp1 with ⟨h0, hDW, o2, ho2, hLo⟩ | ⟨h0, hDW, hLo⟩
  · refine lv_istore (lv' := [(5, .int (cOne (xs (i + 1)))), (0, .ref b), (1, .ref N), (2, .ref (N + 104)), (3, .ref o), (4, .int (nI i))]) hx hb dL_law_1418 hl (by decide) rfl (fun ls hl => ?_)
    refine lv_aload_n hx hb dL_law_1420 rfl (lv_at hl 3 rfl) ?_
    refine lv_aload_n hx hb dL_law_1421 rfl (lv_at hl 1 rfl) ?_
    refine lv_iload hx hb dL_law_1422 (lv_at hl 5 rfl) ?_
    refine lv_iconst (v := 1) hx hb dL_law_1424 (by decide) ?_
    refine lv_iadd hx hb dL_law_1425 ?_
    rw [nI_1 i]
    refine va_sld hx hb hX hbl (Nat.not_le.mpr hbl) hS (vp_in_nI (n := (i + 1)) (N := L) (by omega) (by omega)) dL_law_1426 ?_
    rw [nI_clamp (n := (i + 1)) (by omega)]
    obtain ⟨E, P, L1, L2, L3, la, sp, od, hs, hM⟩ := hMM
    refine dp_Vi hF hK hN (c_X6_fairSpeed l D G (mu N) R S N9 E P F L1 L2 L3 (nI n) kp th la (nI len) sp od hs n (xs (i + 1)) _ hμ hM hg rfl hn6) (cwV 1 hts gL_law_X6_fairSpeed rfl rfl rfl (by decide +kernel) ⟨Nat.le_of_ble_eq_true rfl, Nat.le_of_ble_eq_true rfl⟩) (dp_recv hK hM.1 rfl) hS (fun q hq => mu_ge hN0 hq) [] rfl rfl hl.1 (Nat.le_of_ble_eq_true rfl) dL_law_1427 ⟨by show cells + 1 ≤ 643901; omega, by show slots + 6 ≤ 7164402; omega⟩ (fun r9 H1 locs hp hzH1 hkH1 hS => ?_)
    have hDW := hDW.md ho hkH1
    have hLo := hLo.kept (hkH1 _ hLo.lt (A6_al (k := 114) ho (by omega) (by omega)))
    obtain ⟨-, rfl, hMM⟩ := hp.resolve_right (fun q => q.1 h0)
    refine lv_istore (lv' := [(6, .int (fair R (ix (xs (i + 1))))), (5, .int (cOne (xs (i + 1)))), (0, .ref b), (1, .ref N), (2, .ref (N + 104)), (3, .ref o), (4, .int (nI i))]) hx hb dL_law_1430 hl (by decide) rfl (fun ls hl => ?_)
    refine lv_aload_n hx hb dL_law_1432 rfl (lv_at hl 4 rfl) ?_
    obtain ⟨E, P, L1, L2, L3, la, sp, od, hs, hM⟩ := hMM
    refine dp_Vi hF hK hN (c_X6_thrown l D G (mu N) R S N9 E P F L1 L2 L3 (nI n) kp 0 la (nI len) sp od hs _ hμ hM) (cwV 0 hts gL_law_X6_thrown rfl rfl rfl (by decide +kernel) ⟨Nat.le_of_ble_eq_true rfl, Nat.le_of_ble_eq_true rfl⟩) (dp_recv hK hM.1 rfl) hS nA_i [] rfl rfl hl.1 (Nat.le_of_ble_eq_true rfl) dL_law_1433 ⟨by show cells + 1 ≤ 643901; omega, by show slots + 6 ≤ 7164402; omega⟩ (fun rH2 H2 locs hp hzH2 hkH2 hS => ?_)
    obtain ⟨rfl, rfl⟩ := hp
    have hMM := MM.of hM
    refine lv_iload hx hb dL_law_1436 (lv_at hl 1 rfl) ?_
    refine lv_icmp_eq (tgt := 1443) hx hb dL_law_1438 (by decide) (fun c1 => ?_) (fun c1 => absurd h0.symm c1)
    refine lv_iload hx hb dL_law_1443 (lv_at hl 1 rfl) ?_
    refine lv_if_ne (tgt := 1460) hx hb dL_law_1445 (by decide) (fun c2 => absurd c2 (fun q => q h0)) (fun c2 => ?_)
    refine lv_aload_n hx hb dL_law_1448 rfl (lv_at hl 5 rfl) ?_
    refine lv_iconst (v := 0) hx hb dL_law_1449 (by decide) ?_
    refine dp_lald hx hb hK hLo 4 rfl 0 rfl (by decide) (by decide) dL_law_1450 ?_
    rw [ho2]
    refine lv_iload hx hb dL_law_1451 (lv_at hl 0 rfl) ?_
    refine lv_i2l hx hb dL_law_1453 rfl ?_
    refine W.lcmp hx hb dL_law_1454 ?_
    refine lv_if_eq (tgt := 1460) hx hb dL_law_1455 (by decide) (fun c3 => ?_) (fun c3 => absurd (lg_self _) c3)
    refine lv_goto (tgt := 1574) hx hb dL_law_1460 (by decide) ?_
    refine W.widen (k := cells + 4) (n := slots + 24) (by omega) (by omega) ?_
    exact kk _ _ _ hS ⟨R, RS, N9, S, F, sv, n, len, kp, _, _, m9, hDW, hMM, hLo, hg, hbu, hn6, hl6, hsv, hks, (by omega)⟩ (lv_sub hl [2, 3, 4, 5, 6] rfl)
  · refine lv_istore (lv' := [(5, .int (cOne (xs (i + 1)))), (0, .ref b), (1, .ref N), (2, .ref (N + 104)), (3, .ref o), (4, .int (nI i))]) hx hb dL_law_1418 hl (by decide) rfl (fun ls hl => ?_)
    refine lv_aload_n hx hb dL_law_1420 rfl (lv_at hl 3 rfl) ?_
    refine lv_aload_n hx hb dL_law_1421 rfl (lv_at hl 1 rfl) ?_
    refine lv_iload hx hb dL_law_1422 (lv_at hl 5 rfl) ?_
    refine lv_iconst (v := 1) hx hb dL_law_1424 (by decide) ?_
    refine lv_iadd hx hb dL_law_1425 ?_
    rw [nI_1 i]
    refine va_sld hx hb hX hbl (Nat.not_le.mpr hbl) hS (vp_in_nI (n := (i + 1)) (N := L) (by omega) (by omega)) dL_law_1426 ?_
    rw [nI_clamp (n := (i + 1)) (by omega)]
    obtain ⟨E, P, L1, L2, L3, la, sp, od, hs, hM⟩ := hMM
    refine dp_Vi hF hK hN (c_X6_fairSpeed l D G (mu N) R S N9 E P F L1 L2 L3 (nI n) kp th la (nI len) sp od hs n (xs (i + 1)) _ hμ hM hg rfl hn6) (cwV 1 hts gL_law_X6_fairSpeed rfl rfl rfl (by decide +kernel) ⟨Nat.le_of_ble_eq_true rfl, Nat.le_of_ble_eq_true rfl⟩) (dp_recv hK hM.1 rfl) hS (fun q hq => mu_ge hN0 hq) [] rfl rfl hl.1 (Nat.le_of_ble_eq_true rfl) dL_law_1427 ⟨by show cells + 1 ≤ 643901; omega, by show slots + 6 ≤ 7164402; omega⟩ (fun r9 H3 locs hp hzH3 hkH3 hS => ?_)
    have hDW := hDW.md ho hkH3
    have hLo := hLo.kept (hkH3 _ hLo.lt (A6_al (k := 114) ho (by omega) (by omega)))
    obtain ⟨-, hMM⟩ := hp.resolve_left (fun q => h0 q.1)
    refine lv_istore (lv' := [(6, .int r9), (5, .int (cOne (xs (i + 1)))), (0, .ref b), (1, .ref N), (2, .ref (N + 104)), (3, .ref o), (4, .int (nI i))]) hx hb dL_law_1430 hl (by decide) rfl (fun ls hl => ?_)
    refine lv_aload_n hx hb dL_law_1432 rfl (lv_at hl 4 rfl) ?_
    obtain ⟨E, P, L1, L2, L3, la, sp, od, hs, hM⟩ := hMM
    refine dp_Vi hF hK hN (c_X6_thrown l D G (mu N) R S N9 E P F L1 L2 L3 (nI n) kp (cOne (xs (i + 1))) la (nI len) sp od hs _ hμ hM) (cwV 0 hts gL_law_X6_thrown rfl rfl rfl (by decide +kernel) ⟨Nat.le_of_ble_eq_true rfl, Nat.le_of_ble_eq_true rfl⟩) (dp_recv hK hM.1 rfl) hS nA_i [] rfl rfl hl.1 (Nat.le_of_ble_eq_true rfl) dL_law_1433 ⟨by show cells + 1 ≤ 643901; omega, by show slots + 6 ≤ 7164402; omega⟩ (fun rH4 H4 locs hp hzH4 hkH4 hS => ?_)
    obtain ⟨rfl, rfl⟩ := hp
    have hMM := MM.of hM
    refine lv_iload hx hb dL_law_1436 (lv_at hl 1 rfl) ?_
    refine lv_icmp_eq (tgt := 1443) hx hb dL_law_1438 (by decide) (fun c4 => ?_) (fun c4 => absurd rfl c4)
    refine lv_iload hx hb dL_law_1443 (lv_at hl 1 rfl) ?_
    refine lv_if_ne (tgt := 1460) hx hb dL_law_1445 (by decide) (fun c5 => ?_) (fun c5 => absurd c5 h0)
    refine lv_goto (tgt := 1574) hx hb dL_law_1460 (by decide) ?_
    refine W.widen (k := cells + 4) (n := slots + 24) (by omega) (by omega) ?_
    exact kk _ _ _ hS ⟨R, RS, N9, S, F, sv, n, len, kp, _, _, m9, hDW, hMM, hLo, hg, hbu, hn6, hl6, hsv, hks, (by omega)⟩ (lv_sub hl [2, 3, 4, 5, 6] rfl)

set_option maxHeartbeats 1600000 in
set_option maxRecDepth 100000 in
theorem K_clearBuffer {p : Program} {l : Launch} {e : Env} {s : State} {m : MethodId} {below : List Frame} {meth : Method} {c : Code} {D : va_G} {G : Nat → ClassId} {b N o L c9 : Nat} {xs : Nat → Int32} {Q : State → Prop} {H : Heap} {locs : List Loc} {cells slots : Nat} {ls : Array Slot} (C0 : LC p l s m b c D G N o L xs) (hcs : cells + 4 ≤ 643901 ∧ slots + 24 ≤ 7164402) (hS : va_S (fun q => s.heap.size ≤ q) s.heap H locs) (hI : LInv D G N o c9 H) (hc9 : c9 < 512) (i : Nat) (hi : i + 4 ≤ L) (hl : lv_has ls 9 [(0, .ref b), (1, .ref N), (2, .ref (N + 104)), (3, .ref o), (4, .int (nI i))]) (kk : ∀ (H1 : Heap) (locs1 : List Loc) (ls1 : Array Slot), va_S (fun q => s.heap.size ≤ q) s.heap H1 locs1 → LInv D G N o (c9 + 1) H1 → lv_has ls1 9 [(0, .ref b), (1, .ref N), (2, .ref (N + 104)), (3, .ref o), (4, .int (nI i))] → W p l e room_1 s m #[Value.ref b] below meth c H1 locs1 (cells + 4) (slots + 24) Q (F0 m 1574 ls1 [])) : W p l e room_1 s m #[Value.ref b] below meth c H locs cells slots Q (F0 m 852 ls []) := by
  obtain ⟨hx, hb, hml, hown, hts, hK, hN, hE, hZ, hC, hl9, hN0, ho, hX, hbl, hL⟩ := C0
  obtain ⟨R, RS, N9, S, F, sv, n, len, kp, th, oo, m9, hDW, hMM, hLo, hg, hbu, hn6, hl6, hsv, hks, hm9⟩ := hI
  have hF : CallFix p m c cL_law 9 s #[Value.ref b] wsL_law RL := ⟨hx, hb, hml, hown, hts⟩
  have hα : inj 115 (al N o) := al_inj ho
  have hμ : inj 10 (mu N) := mu_inj N
  refine lv_aload_n hx hb dL_law_852 rfl (lv_at hl 1 rfl) ?_
  obtain ⟨w, RT, hw, hD⟩ := hDW
  refine dp_Vi hF hK hN (c_X5_clearBuffer l D G (al N o) w R RT RS kp sv n F len _ hα hw hD (gd_bz hg) (gd_mono hg) hn6 hl6) (cwV 0 hts gL_law_X5_clearBuffer rfl rfl rfl (by decide +kernel) ⟨Nat.le_of_ble_eq_true rfl, Nat.le_of_ble_eq_true rfl⟩) (dp_recv hK hD.1 rfl) hS (fun q hq => al_ge hN0 ho (Or.inl hq)) [] rfl rfl hl.1 (Nat.le_of_ble_eq_true rfl) dL_law_853 ⟨by show cells ≤ 643901; omega, by show slots ≤ 7164402; omega⟩ (fun r9 H1 locs hp hzH1 hkH1 hS => ?_)
  obtain ⟨rfl, hDW⟩ := hp
  have hMM := hMM.cl ho (fun q hq => Or.inl hq) hkH1
  have hLo := hLo.kept (hkH1 _ hLo.lt (A5_114 hα))
  refine lv_aload_n hx hb dL_law_856 rfl (lv_at hl 2 rfl) ?_
  obtain ⟨E, P, L1, L2, L3, la, sp, od, hs, hM⟩ := hMM
  refine dp_Vi hF hK hN (c_X6_clearBuffer l D G (mu N) R S N9 E P F L1 L2 L3 (nI n) kp th la (nI len) sp od hs _ hμ hM ) (cwV 0 hts gL_law_X6_clearBuffer rfl rfl rfl (by decide +kernel) ⟨Nat.le_of_ble_eq_true rfl, Nat.le_of_ble_eq_true rfl⟩) (dp_recv hK hM.1 rfl) hS (fun q hq => mu_ge hN0 hq) [.int (nI len)] rfl rfl hl.1 (Nat.le_of_ble_eq_true rfl) dL_law_857 ⟨by show cells ≤ 643901; omega, by show slots ≤ 7164402; omega⟩ (fun r9 H2 locs hp hzH2 hkH2 hS => ?_)
  have hDW := hDW.md ho hkH2
  have hLo := hLo.kept (hkH2 _ hLo.lt (A6_al (k := 114) ho (by omega) (by omega)))
  obtain ⟨rfl, hMM⟩ := hp
  have hMM := MM.of hMM
  refine lv_icmp_eq (tgt := 1574) hx hb dL_law_860 (by decide) (fun c1 => ?_) (fun c1 => absurd rfl c1)
  refine W.widen (k := cells + 4) (n := slots + 24) (by omega) (by omega) ?_
  exact kk _ _ _ hS ⟨R, RS, N9, S, F, sv, n, 0, kp, _, _, m9, hDW, hMM, hLo, hg, hbu, hn6, (by omega), hsv, hks, (by omega)⟩ (lv_sub hl [0, 1, 2, 3, 4] rfl)

set_option maxHeartbeats 1600000 in
set_option maxRecDepth 100000 in
theorem K_firstError {p : Program} {l : Launch} {e : Env} {s : State} {m : MethodId} {below : List Frame} {meth : Method} {c : Code} {D : va_G} {G : Nat → ClassId} {b N o L c9 : Nat} {xs : Nat → Int32} {Q : State → Prop} {H : Heap} {locs : List Loc} {cells slots : Nat} {ls : Array Slot} (C0 : LC p l s m b c D G N o L xs) (hcs : cells + 4 ≤ 643901 ∧ slots + 24 ≤ 7164402) (hS : va_S (fun q => s.heap.size ≤ q) s.heap H locs) (hI : LInv D G N o c9 H) (hc9 : c9 < 512) (i : Nat) (hi : i + 4 ≤ L) (hl : lv_has ls 9 [(0, .ref b), (1, .ref N), (2, .ref (N + 104)), (3, .ref o), (4, .int (nI i))]) (kk : ∀ (H1 : Heap) (locs1 : List Loc) (ls1 : Array Slot), va_S (fun q => s.heap.size ≤ q) s.heap H1 locs1 → LInv D G N o (c9 + 1) H1 → lv_has ls1 9 [(0, .ref b), (1, .ref N), (2, .ref (N + 104)), (3, .ref o), (4, .int (nI i))] → W p l e room_1 s m #[Value.ref b] below meth c H1 locs1 (cells + 4) (slots + 24) Q (F0 m 1574 ls1 [])) : W p l e room_1 s m #[Value.ref b] below meth c H locs cells slots Q (F0 m 865 ls []) := by
  obtain ⟨hx, hb, hml, hown, hts, hK, hN, hE, hZ, hC, hl9, hN0, ho, hX, hbl, hL⟩ := C0
  obtain ⟨R, RS, N9, S, F, sv, n, len, kp, th, oo, m9, hDW, hMM, hLo, hg, hbu, hn6, hl6, hsv, hks, hm9⟩ := hI
  have hF : CallFix p m c cL_law 9 s #[Value.ref b] wsL_law RL := ⟨hx, hb, hml, hown, hts⟩
  have hα : inj 115 (al N o) := al_inj ho
  have hμ : inj 10 (mu N) := mu_inj N
  refine lv_aload_n hx hb dL_law_865 rfl (lv_at hl 1 rfl) ?_
  obtain ⟨w, RT, hw, hD⟩ := hDW
  refine dp_Vi hF hK hN (c_X5_firstError l D G (al N o) w R RT RS kp sv n F len _ hα hw hD (gd_bz hg) (gd_mono hg) hn6 hl6) (cwV 0 hts gL_law_X5_firstError rfl rfl rfl (by decide +kernel) ⟨Nat.le_of_ble_eq_true rfl, Nat.le_of_ble_eq_true rfl⟩) (dp_recv hK hD.1 rfl) hS nA_i [] rfl rfl hl.1 (Nat.le_of_ble_eq_true rfl) dL_law_866 ⟨by show cells ≤ 643901; omega, by show slots ≤ 7164402; omega⟩ (fun r9 H1 locs hp hzH1 hkH1 hS => ?_)
  obtain ⟨rfl, rfl⟩ := hp
  have hDW : DW D G (al N o) R RS kp sv n F len _ := ⟨w, RT, hw, hD⟩
  refine lv_aload_n hx hb dL_law_869 rfl (lv_at hl 2 rfl) ?_
  obtain ⟨E, P, L1, L2, L3, la, sp, od, hs, hM⟩ := hMM
  refine dp_Vi hF hK hN (c_X6_firstError l D G (mu N) R S N9 E P F L1 L2 L3 (nI n) kp th la (nI len) sp od hs len _ hμ hM rfl hl6) (cwV 0 hts gL_law_X6_firstError rfl rfl rfl (by decide +kernel) ⟨Nat.le_of_ble_eq_true rfl, Nat.le_of_ble_eq_true rfl⟩) (dp_recv hK hM.1 rfl) hS (fun q hq => mu_ge hN0 hq) [.int (nI (fwr F 0 len))] rfl rfl hl.1 (Nat.le_of_ble_eq_true rfl) dL_law_870 ⟨by show cells ≤ 643901; omega, by show slots ≤ 7164402; omega⟩ (fun r9 H2 locs hp hzH2 hkH2 hS => ?_)
  have hDW := hDW.md ho hkH2
  have hLo := hLo.kept (hkH2 _ hLo.lt (A6_al (k := 114) ho (by omega) (by omega)))
  obtain ⟨rfl, hMM⟩ := hp
  obtain ⟨X1, X2, X3, sp2, od2, hMM⟩ := hMM
  have hMM := MM.of hMM
  refine lv_icmp_eq (tgt := 1574) hx hb dL_law_873 (by decide) (fun c1 => ?_) (fun c1 => absurd rfl c1)
  refine W.widen (k := cells + 4) (n := slots + 24) (by omega) (by omega) ?_
  exact kk _ _ _ hS ⟨R, RS, N9, S, F, sv, n, len, kp, _, _, m9, hDW, hMM, hLo, hg, hbu, hn6, hl6, hsv, hks, (by omega)⟩ (lv_sub hl [0, 1, 2, 3, 4] rfl)

set_option maxHeartbeats 1600000 in
set_option maxRecDepth 100000 in
theorem K_keep {p : Program} {l : Launch} {e : Env} {s : State} {m : MethodId} {below : List Frame} {meth : Method} {c : Code} {D : va_G} {G : Nat → ClassId} {b N o L c9 : Nat} {xs : Nat → Int32} {Q : State → Prop} {H : Heap} {locs : List Loc} {cells slots : Nat} {ls : Array Slot} (C0 : LC p l s m b c D G N o L xs) (hcs : cells + 4 ≤ 643901 ∧ slots + 24 ≤ 7164402) (hS : va_S (fun q => s.heap.size ≤ q) s.heap H locs) (hI : LInv D G N o c9 H) (hc9 : c9 < 512) (i : Nat) (hi : i + 4 ≤ L) (hl : lv_has ls 9 [(0, .ref b), (1, .ref N), (2, .ref (N + 104)), (3, .ref o), (4, .int (nI i))]) (kk : ∀ (H1 : Heap) (locs1 : List Loc) (ls1 : Array Slot), va_S (fun q => s.heap.size ≤ q) s.heap H1 locs1 → LInv D G N o (c9 + 1) H1 → lv_has ls1 9 [(0, .ref b), (1, .ref N), (2, .ref (N + 104)), (3, .ref o), (4, .int (nI i))] → W p l e room_1 s m #[Value.ref b] below meth c H1 locs1 (cells + 4) (slots + 24) Q (F0 m 1574 ls1 [])) : W p l e room_1 s m #[Value.ref b] below meth c H locs cells slots Q (F0 m 922 ls []) := by
  obtain ⟨hx, hb, hml, hown, hts, hK, hN, hE, hZ, hC, hl9, hN0, ho, hX, hbl, hL⟩ := C0
  obtain ⟨R, RS, N9, S, F, sv, n, len, kp, th, oo, m9, hDW, hMM, hLo, hg, hbu, hn6, hl6, hsv, hks, hm9⟩ := hI
  have hF : CallFix p m c cL_law 9 s #[Value.ref b] wsL_law RL := ⟨hx, hb, hml, hown, hts⟩
  have hα : inj 115 (al N o) := al_inj ho
  have hμ : inj 10 (mu N) := mu_inj N
  refine lv_aload_n hx hb dL_law_922 rfl (lv_at hl 1 rfl) ?_
  obtain ⟨w, RT, hw, hD⟩ := hDW
  refine dp_Vi hF hK hN (c_X5_keep l D G (al N o) w R RT RS kp sv n F len _ hα hw hD (gd_bz hg) (gd_mono hg) hn6 hl6) (cwV 0 hts gL_law_X5_keep rfl rfl rfl (by decide +kernel) ⟨Nat.le_of_ble_eq_true rfl, Nat.le_of_ble_eq_true rfl⟩) (dp_recv hK hD.1 rfl) hS (fun q hq => al_ge hN0 ho (Or.inl hq)) [] rfl rfl hl.1 (Nat.le_of_ble_eq_true rfl) dL_law_923 ⟨by show cells ≤ 643901; omega, by show slots ≤ 7164402; omega⟩ (fun r9 H1 locs hp hzH1 hkH1 hS => ?_)
  obtain ⟨rfl, hDW⟩ := hp
  have hMM := hMM.cl ho (fun q hq => Or.inl hq) hkH1
  have hLo := hLo.kept (hkH1 _ hLo.lt (A5_114 hα))
  refine lv_aload_n hx hb dL_law_926 rfl (lv_at hl 2 rfl) ?_
  obtain ⟨E, P, L1, L2, L3, la, sp, od, hs, hM⟩ := hMM
  refine dp_Vi hF hK hN (c_X6_keep l D G (mu N) R S N9 E P F L1 L2 L3 (nI n) kp th la (nI len) sp od hs _ hμ hM ) (cwV 0 hts gL_law_X6_keep rfl rfl rfl (by decide +kernel) ⟨Nat.le_of_ble_eq_true rfl, Nat.le_of_ble_eq_true rfl⟩) (dp_recv hK hM.1 rfl) hS (fun q hq => mu_ge hN0 hq) [.int (R 4)] rfl rfl hl.1 (Nat.le_of_ble_eq_true rfl) dL_law_927 ⟨by show cells ≤ 643901; omega, by show slots ≤ 7164402; omega⟩ (fun r9 H2 locs hp hzH2 hkH2 hS => ?_)
  have hDW := hDW.md ho hkH2
  have hLo := hLo.kept (hkH2 _ hLo.lt (A6_al (k := 114) ho (by omega) (by omega)))
  obtain ⟨rfl, hMM⟩ := hp
  have hMM := MM.of hMM
  refine lv_icmp_eq (tgt := 1574) hx hb dL_law_930 (by decide) (fun c1 => ?_) (fun c1 => absurd rfl c1)
  refine W.widen (k := cells + 4) (n := slots + 24) (by omega) (by omega) ?_
  exact kk _ _ _ hS ⟨R, R, R, S, F, sv, n, len, 1, _, _, m9, hDW, hMM, hLo, hg, hbu, hn6, hl6, hsv, (fun _ => ⟨rfl, hg, hbu⟩), (by omega)⟩ (lv_sub hl [0, 1, 2, 3, 4] rfl)

set_option maxHeartbeats 1600000 in
set_option maxRecDepth 100000 in
theorem K_nextTrip {p : Program} {l : Launch} {e : Env} {s : State} {m : MethodId} {below : List Frame} {meth : Method} {c : Code} {D : va_G} {G : Nat → ClassId} {b N o L c9 : Nat} {xs : Nat → Int32} {Q : State → Prop} {H : Heap} {locs : List Loc} {cells slots : Nat} {ls : Array Slot} (C0 : LC p l s m b c D G N o L xs) (hcs : cells + 4 ≤ 643901 ∧ slots + 24 ≤ 7164402) (hS : va_S (fun q => s.heap.size ≤ q) s.heap H locs) (hI : LInv D G N o c9 H) (hc9 : c9 < 512) (i : Nat) (hi : i + 4 ≤ L) (hl : lv_has ls 9 [(0, .ref b), (1, .ref N), (2, .ref (N + 104)), (3, .ref o), (4, .int (nI i))]) (kk : ∀ (H1 : Heap) (locs1 : List Loc) (ls1 : Array Slot), va_S (fun q => s.heap.size ≤ q) s.heap H1 locs1 → LInv D G N o (c9 + 1) H1 → lv_has ls1 9 [(0, .ref b), (1, .ref N), (2, .ref (N + 104)), (3, .ref o), (4, .int (nI i))] → W p l e room_1 s m #[Value.ref b] below meth c H1 locs1 (cells + 4) (slots + 24) Q (F0 m 1574 ls1 [])) : W p l e room_1 s m #[Value.ref b] below meth c H locs cells slots Q (F0 m 1463 ls []) := by
  obtain ⟨hx, hb, hml, hown, hts, hK, hN, hE, hZ, hC, hl9, hN0, ho, hX, hbl, hL⟩ := C0
  obtain ⟨R, RS, N9, S, F, sv, n, len, kp, th, oo, m9, hDW, hMM, hLo, hg, hbu, hn6, hl6, hsv, hks, hm9⟩ := hI
  have hF : CallFix p m c cL_law 9 s #[Value.ref b] wsL_law RL := ⟨hx, hb, hml, hown, hts⟩
  have hα : inj 115 (al N o) := al_inj ho
  have hμ : inj 10 (mu N) := mu_inj N
  refine lv_aload_n hx hb dL_law_1463 rfl (lv_at hl 1 rfl) ?_
  obtain ⟨w, RT, hw, hD⟩ := hDW
  refine dp_Vi hF hK hN (c_X5_nextTrip l D G (al N o) w R RT RS kp sv n F len _ hα hw hD (gd_bz hg) (gd_mono hg) hn6 hl6 (fun k _ => gd_mono (gd_pt hg k))) (cwV 0 hts gL_law_X5_nextTrip rfl rfl rfl (by decide +kernel) ⟨Nat.le_of_ble_eq_true rfl, Nat.le_of_ble_eq_true rfl⟩) (dp_recv hK hD.1 rfl) hS (fun q hq => al_ge hN0 ho (Or.inl hq)) [] rfl rfl hl.1 (Nat.le_of_ble_eq_true rfl) dL_law_1464 ⟨by show cells ≤ 643901; omega, by show slots ≤ 7164402; omega⟩ (fun r9 H1 locs hp hzH1 hkH1 hS => ?_)
  obtain ⟨rfl, hDW⟩ := hp
  have hMM := hMM.cl ho (fun q hq => Or.inl hq) hkH1
  have hLo := hLo.kept (hkH1 _ hLo.lt (A5_114 hα))
  refine lv_aload_n hx hb dL_law_1467 rfl (lv_at hl 2 rfl) ?_
  obtain ⟨E, P, L1, L2, L3, la, sp, od, hs, hM⟩ := hMM
  refine dp_Vi hF hK hN (c_X6_nextTrip l D G (mu N) R S N9 E P F L1 L2 L3 (nI n) kp th la (nI len) sp od hs _ hμ hM hg) (cwV 0 hts gL_law_X6_nextTrip rfl rfl rfl (by decide +kernel) ⟨Nat.le_of_ble_eq_true rfl, Nat.le_of_ble_eq_true rfl⟩) (dp_recv hK hM.1 rfl) hS (fun q hq => mu_ge hN0 hq) [.int (ntp R)] rfl rfl hl.1 (Nat.le_of_ble_eq_true rfl) dL_law_1468 ⟨by show cells ≤ 643901; omega, by show slots ≤ 7164402; omega⟩ (fun r9 H2 locs hp hzH2 hkH2 hS => ?_)
  have hDW := hDW.md ho hkH2
  have hLo := hLo.kept (hkH2 _ hLo.lt (A6_al (k := 114) ho (by omega) (by omega)))
  obtain ⟨rfl, hMM⟩ := hp
  refine lv_icmp_eq (tgt := 1574) hx hb dL_law_1471 (by decide) (fun c1 => ?_) (fun c1 => absurd rfl c1)
  refine W.widen (k := cells + 4) (n := slots + 24) (by omega) (by omega) ?_
  exact kk _ _ _ hS ⟨R, RS, N9, S, F, sv, n, len, kp, _, _, m9, hDW, hMM, hLo, hg, hbu, hn6, hl6, hsv, hks, (by omega)⟩ (lv_sub hl [0, 1, 2, 3, 4] rfl)

set_option maxHeartbeats 1600000 in
set_option maxRecDepth 100000 in
theorem K_loadShare {p : Program} {l : Launch} {e : Env} {s : State} {m : MethodId} {below : List Frame} {meth : Method} {c : Code} {D : va_G} {G : Nat → ClassId} {b N o L c9 : Nat} {xs : Nat → Int32} {Q : State → Prop} {H : Heap} {locs : List Loc} {cells slots : Nat} {ls : Array Slot} (C0 : LC p l s m b c D G N o L xs) (hcs : cells + 4 ≤ 643901 ∧ slots + 24 ≤ 7164402) (hS : va_S (fun q => s.heap.size ≤ q) s.heap H locs) (hI : LInv D G N o c9 H) (hc9 : c9 < 512) (i : Nat) (hi : i + 4 ≤ L) (hl : lv_has ls 9 [(0, .ref b), (1, .ref N), (2, .ref (N + 104)), (3, .ref o), (4, .int (nI i))]) (kk : ∀ (H1 : Heap) (locs1 : List Loc) (ls1 : Array Slot), va_S (fun q => s.heap.size ≤ q) s.heap H1 locs1 → LInv D G N o (c9 + 1) H1 → lv_has ls1 9 [(0, .ref b), (1, .ref N), (2, .ref (N + 104)), (3, .ref o), (4, .int (nI i))] → W p l e room_1 s m #[Value.ref b] below meth c H1 locs1 (cells + 4) (slots + 24) Q (F0 m 1574 ls1 [])) : W p l e room_1 s m #[Value.ref b] below meth c H locs cells slots Q (F0 m 1476 ls []) := by
  obtain ⟨hx, hb, hml, hown, hts, hK, hN, hE, hZ, hC, hl9, hN0, ho, hX, hbl, hL⟩ := C0
  obtain ⟨R, RS, N9, S, F, sv, n, len, kp, th, oo, m9, hDW, hMM, hLo, hg, hbu, hn6, hl6, hsv, hks, hm9⟩ := hI
  have hF : CallFix p m c cL_law 9 s #[Value.ref b] wsL_law RL := ⟨hx, hb, hml, hown, hts⟩
  have hα : inj 115 (al N o) := al_inj ho
  have hμ : inj 10 (mu N) := mu_inj N
  refine lv_aload_n hx hb dL_law_1476 rfl (lv_at hl 1 rfl) ?_
  obtain ⟨w, RT, hw, hD⟩ := hDW
  refine dp_Vd hF hK hN (c_X5_loadShare l D G (al N o) w R RT RS kp sv n F len _ hα hw hD (gd_bz hg) (gd_mono hg) hn6 hl6 (gd_fd hg)) (cwV 0 hts gL_law_X5_loadShare rfl rfl rfl (by decide +kernel) ⟨Nat.le_of_ble_eq_true rfl, Nat.le_of_ble_eq_true rfl⟩) (dp_recv hK hD.1 rfl) hS nA_i [] rfl rfl hl.1 (Nat.le_of_ble_eq_true rfl) dL_law_1477 ⟨by show cells ≤ 643901; omega, by show slots ≤ 7164402; omega⟩ (fun r9 H1 locs hp hzH1 hkH1 hS => ?_)
  obtain ⟨rfl, rfl⟩ := hp
  have hDW : DW D G (al N o) R RS kp sv n F len _ := ⟨w, RT, hw, hD⟩
  refine lv_dstore (lv' := [(5, .double (ldsh R)), (0, .ref b), (1, .ref N), (2, .ref (N + 104)), (3, .ref o), (4, .int (nI i))]) hx hb dL_law_1480 hl (by decide) rfl (fun ls hl => ?_)
  refine lv_aload_n hx hb dL_law_1482 rfl (lv_at hl 3 rfl) ?_
  obtain ⟨E, P, L1, L2, L3, la, sp, od, hs, hM⟩ := hMM
  refine dp_Vd hF hK hN (c_X6_loadShare l D G (mu N) R S N9 E P F L1 L2 L3 (nI n) kp th la (nI len) sp od hs _ hμ hM hg) (cwV 0 hts gL_law_X6_loadShare rfl rfl rfl (by decide +kernel) ⟨Nat.le_of_ble_eq_true rfl, Nat.le_of_ble_eq_true rfl⟩) (dp_recv hK hM.1 rfl) hS (fun q hq => mu_ge hN0 hq) [] rfl rfl hl.1 (Nat.le_of_ble_eq_true rfl) dL_law_1483 ⟨by show cells ≤ 643901; omega, by show slots ≤ 7164402; omega⟩ (fun r9 H2 locs hp hzH2 hkH2 hS => ?_)
  have hDW := hDW.md ho hkH2
  have hLo := hLo.kept (hkH2 _ hLo.lt (A6_al (k := 114) ho (by omega) (by omega)))
  obtain ⟨rfl, hMM⟩ := hp
  refine lv_dstore (lv' := [(7, .double (ldsh R)), (5, .double (ldsh R)), (0, .ref b), (1, .ref N), (2, .ref (N + 104)), (3, .ref o), (4, .int (nI i))]) hx hb dL_law_1486 hl (by decide) rfl (fun ls hl => ?_)
  refine lv_dload hx hb dL_law_1488 (lv_at hl 1 rfl) ?_
  refine lv_dload hx hb dL_law_1490 (lv_at hl 0 rfl) ?_
  refine lv_dcmp hx hb dL_law_1492 ?_
  refine lv_if_eq (tgt := 1514) hx hb dL_law_1493 (by decide) (fun c1 => ?_) (fun c1 => absurd (okD_c (gd_okD hg)) c1)
  refine lv_goto (tgt := 1574) hx hb dL_law_1514 (by decide) ?_
  refine W.widen (k := cells + 4) (n := slots + 24) (by omega) (by omega) ?_
  exact kk _ _ _ hS ⟨R, RS, N9, S, F, sv, n, len, kp, _, _, m9, hDW, hMM, hLo, hg, hbu, hn6, hl6, hsv, hks, (by omega)⟩ (lv_sub hl [2, 3, 4, 5, 6] rfl)

set_option maxHeartbeats 1600000 in
set_option maxRecDepth 100000 in
theorem K_meanPower {p : Program} {l : Launch} {e : Env} {s : State} {m : MethodId} {below : List Frame} {meth : Method} {c : Code} {D : va_G} {G : Nat → ClassId} {b N o L c9 : Nat} {xs : Nat → Int32} {Q : State → Prop} {H : Heap} {locs : List Loc} {cells slots : Nat} {ls : Array Slot} (C0 : LC p l s m b c D G N o L xs) (hcs : cells + 4 ≤ 643901 ∧ slots + 24 ≤ 7164402) (hS : va_S (fun q => s.heap.size ≤ q) s.heap H locs) (hI : LInv D G N o c9 H) (hc9 : c9 < 512) (i : Nat) (hi : i + 4 ≤ L) (hl : lv_has ls 9 [(0, .ref b), (1, .ref N), (2, .ref (N + 104)), (3, .ref o), (4, .int (nI i))]) (kk : ∀ (H1 : Heap) (locs1 : List Loc) (ls1 : Array Slot), va_S (fun q => s.heap.size ≤ q) s.heap H1 locs1 → LInv D G N o (c9 + 1) H1 → lv_has ls1 9 [(0, .ref b), (1, .ref N), (2, .ref (N + 104)), (3, .ref o), (4, .int (nI i))] → W p l e room_1 s m #[Value.ref b] below meth c H1 locs1 (cells + 4) (slots + 24) Q (F0 m 1574 ls1 [])) : W p l e room_1 s m #[Value.ref b] below meth c H locs cells slots Q (F0 m 1517 ls []) := by
  obtain ⟨hx, hb, hml, hown, hts, hK, hN, hE, hZ, hC, hl9, hN0, ho, hX, hbl, hL⟩ := C0
  obtain ⟨R, RS, N9, S, F, sv, n, len, kp, th, oo, m9, hDW, hMM, hLo, hg, hbu, hn6, hl6, hsv, hks, hm9⟩ := hI
  have hF : CallFix p m c cL_law 9 s #[Value.ref b] wsL_law RL := ⟨hx, hb, hml, hown, hts⟩
  have hα : inj 115 (al N o) := al_inj ho
  have hμ : inj 10 (mu N) := mu_inj N
  have hokF : okF (mnpw R) := okF_of hbu (by omega)
  refine lv_aload_n hx hb dL_law_1517 rfl (lv_at hl 1 rfl) ?_
  obtain ⟨w, RT, hw, hD⟩ := hDW
  refine dp_Vf hF hK hN (c_X5_meanPower l D G (al N o) w R RT RS kp sv n F len _ hα hw hD (gd_bz hg) (gd_mono hg) hn6 hl6 (bud_fd hbu (by omega))) (cwV 0 hts gL_law_X5_meanPower rfl rfl rfl (by decide +kernel) ⟨Nat.le_of_ble_eq_true rfl, Nat.le_of_ble_eq_true rfl⟩) (dp_recv hK hD.1 rfl) hS nA_i [] rfl rfl hl.1 (Nat.le_of_ble_eq_true rfl) dL_law_1518 ⟨by show cells ≤ 643901; omega, by show slots ≤ 7164402; omega⟩ (fun r9 H1 locs hp hzH1 hkH1 hS => ?_)
  obtain ⟨rfl, rfl⟩ := hp
  have hDW : DW D G (al N o) R RS kp sv n F len _ := ⟨w, RT, hw, hD⟩
  refine lv_f2d hx hb dL_law_1521 (f2d_n hokF).1 ?_
  refine lv_dstore (lv' := [(5, .double (FP.f2d (mnpw R))), (0, .ref b), (1, .ref N), (2, .ref (N + 104)), (3, .ref o), (4, .int (nI i))]) hx hb dL_law_1522 hl (by decide) rfl (fun ls hl => ?_)
  refine lv_aload_n hx hb dL_law_1524 rfl (lv_at hl 3 rfl) ?_
  obtain ⟨E, P, L1, L2, L3, la, sp, od, hs, hM⟩ := hMM
  refine dp_Vf hF hK hN (c_X6_meanPower l D G (mu N) R S N9 E P F L1 L2 L3 (nI n) kp th la (nI len) sp od hs _ hμ hM hg (bud_fd hbu (by omega))) (cwV 0 hts gL_law_X6_meanPower rfl rfl rfl (by decide +kernel) ⟨Nat.le_of_ble_eq_true rfl, Nat.le_of_ble_eq_true rfl⟩) (dp_recv hK hM.1 rfl) hS (fun q hq => mu_ge hN0 hq) [] rfl rfl hl.1 (Nat.le_of_ble_eq_true rfl) dL_law_1525 ⟨by show cells ≤ 643901; omega, by show slots ≤ 7164402; omega⟩ (fun r9 H2 locs hp hzH2 hkH2 hS => ?_)
  have hDW := hDW.md ho hkH2
  have hLo := hLo.kept (hkH2 _ hLo.lt (A6_al (k := 114) ho (by omega) (by omega)))
  obtain ⟨rfl, hMM⟩ := hp
  refine lv_f2d hx hb dL_law_1528 (f2d_n hokF).1 ?_
  refine lv_dstore (lv' := [(7, .double (FP.f2d (mnpw R))), (5, .double (FP.f2d (mnpw R))), (0, .ref b), (1, .ref N), (2, .ref (N + 104)), (3, .ref o), (4, .int (nI i))]) hx hb dL_law_1529 hl (by decide) rfl (fun ls hl => ?_)
  refine lv_dload hx hb dL_law_1531 (lv_at hl 1 rfl) ?_
  refine lv_dload hx hb dL_law_1533 (lv_at hl 0 rfl) ?_
  refine lv_dcmp hx hb dL_law_1535 ?_
  refine lv_if_eq (tgt := 1557) hx hb dL_law_1536 (by decide) (fun c1 => ?_) (fun c1 => absurd (f2d_n hokF).2 c1)
  refine lv_goto (tgt := 1574) hx hb dL_law_1557 (by decide) ?_
  refine W.widen (k := cells + 4) (n := slots + 24) (by omega) (by omega) ?_
  exact kk _ _ _ hS ⟨R, RS, N9, S, F, sv, n, len, kp, _, _, m9, hDW, hMM, hLo, hg, hbu, hn6, hl6, hsv, hks, (by omega)⟩ (lv_sub hl [2, 3, 4, 5, 6] rfl)

set_option maxHeartbeats 1600000 in
set_option maxRecDepth 100000 in
theorem K_digest {p : Program} {l : Launch} {e : Env} {s : State} {m : MethodId} {below : List Frame} {meth : Method} {c : Code} {D : va_G} {G : Nat → ClassId} {b N o L c9 : Nat} {xs : Nat → Int32} {Q : State → Prop} {H : Heap} {locs : List Loc} {cells slots : Nat} {ls : Array Slot} (C0 : LC p l s m b c D G N o L xs) (hcs : cells + 4 ≤ 643901 ∧ slots + 24 ≤ 7164402) (hS : va_S (fun q => s.heap.size ≤ q) s.heap H locs) (hI : LInv D G N o c9 H) (hc9 : c9 < 512) (i : Nat) (hi : i + 4 ≤ L) (hl : lv_has ls 9 [(0, .ref b), (1, .ref N), (2, .ref (N + 104)), (3, .ref o), (4, .int (nI i))]) (kk : ∀ (H1 : Heap) (locs1 : List Loc) (ls1 : Array Slot), va_S (fun q => s.heap.size ≤ q) s.heap H1 locs1 → LInv D G N o (c9 + 1) H1 → lv_has ls1 9 [(0, .ref b), (1, .ref N), (2, .ref (N + 104)), (3, .ref o), (4, .int (nI i))] → W p l e room_1 s m #[Value.ref b] below meth c H1 locs1 (cells + 4) (slots + 24) Q (F0 m 1574 ls1 [])) : W p l e room_1 s m #[Value.ref b] below meth c H locs cells slots Q (F0 m 1560 ls []) := by
  obtain ⟨hx, hb, hml, hown, hts, hK, hN, hE, hZ, hC, hl9, hN0, ho, hX, hbl, hL⟩ := C0
  obtain ⟨R, RS, N9, S, F, sv, n, len, kp, th, oo, m9, hDW, hMM, hLo, hg, hbu, hn6, hl6, hsv, hks, hm9⟩ := hI
  have hF : CallFix p m c cL_law 9 s #[Value.ref b] wsL_law RL := ⟨hx, hb, hml, hown, hts⟩
  have hα : inj 115 (al N o) := al_inj ho
  have hμ : inj 10 (mu N) := mu_inj N
  have hokF : okF (mnpw R) := okF_of hbu (by omega)
  refine lv_aload_n hx hb dL_law_1560 rfl (lv_at hl 1 rfl) ?_
  obtain ⟨w, RT, hw, hD⟩ := hDW
  refine dp_Vl hF hK hN (c_X5_digest l D G (al N o) w R RT RS kp sv n F len _ hα hw hD (gd_bz hg) (gd_mono hg) hn6 hl6 (fun j _ => mono_us (k := 350) hg (by omega)) (fun k _ => gd_mono (gd_pt hg k)) (fun j _ k hk => mono_us hg hk) (gd_okD hg) hokF) (cwV 0 hts gL_law_X5_digest rfl rfl rfl (by decide +kernel) ⟨Nat.le_of_ble_eq_true rfl, Nat.le_of_ble_eq_true rfl⟩) (dp_recv hK hD.1 rfl) hS (fun q hq => al_ge hN0 ho (Or.inl hq)) [] rfl rfl hl.1 (Nat.le_of_ble_eq_true rfl) dL_law_1561 ⟨by show cells ≤ 643901; omega, by show slots ≤ 7164402; omega⟩ (fun r9 H1 locs hp hzH1 hkH1 hS => ?_)
  obtain ⟨rfl, hDW⟩ := hp
  have hMM := hMM.cl ho (fun q hq => Or.inl hq) hkH1
  have hLo := hLo.kept (hkH1 _ hLo.lt (A5_114 hα))
  refine lv_aload_n hx hb dL_law_1564 rfl (lv_at hl 2 rfl) ?_
  obtain ⟨E, P, L1, L2, L3, la, sp, od, hs, hM⟩ := hMM
  refine dp_Vl hF hK hN (c_X6_digest l D G (mu N) R S N9 E P F L1 L2 L3 (nI n) kp th la (nI len) sp od hs n len _ hμ hM hg rfl rfl hl6 hokF (bud_fd hbu (by omega))) (cwV 0 hts gL_law_X6_digest rfl rfl rfl (by decide +kernel) ⟨Nat.le_of_ble_eq_true rfl, Nat.le_of_ble_eq_true rfl⟩) (dp_recv hK hM.1 rfl) hS (fun q hq => mu_ge hN0 hq) [.long (dig R kp n F len 3701)] rfl rfl hl.1 (Nat.le_of_ble_eq_true rfl) dL_law_1565 ⟨by show cells ≤ 643901; omega, by show slots ≤ 7164402; omega⟩ (fun r9 H2 locs hp hzH2 hkH2 hS => ?_)
  have hDW := hDW.md ho hkH2
  have hLo := hLo.kept (hkH2 _ hLo.lt (A6_al (k := 114) ho (by omega) (by omega)))
  obtain ⟨rfl, hMM⟩ := hp
  obtain ⟨P9, la9, hMM⟩ := hMM
  have hMM := MM.of hMM
  refine W.lcmp hx hb dL_law_1568 ?_
  refine lv_if_eq (tgt := 1574) hx hb dL_law_1569 (by decide) (fun c1 => ?_) (fun c1 => absurd (lg_self _) c1)
  refine W.widen (k := cells + 4) (n := slots + 24) (by omega) (by omega) ?_
  exact kk _ _ _ hS ⟨R, RS, N9, S, F, sv, n, len, kp, _, _, m9, hDW, hMM, hLo, hg, hbu, hn6, hl6, hsv, hks, (by omega)⟩ (lv_sub hl [0, 1, 2, 3, 4] rfl)
